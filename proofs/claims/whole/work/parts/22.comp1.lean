theorem inR2_no {w : Int32} (h0 : ¬ w = 0) (h1 : ¬ w = 1) : inR w 2 = false := by
  cases h : inR w 2 with
  | false => rfl
  | true =>
    have h2 := of_decide_eq_true h
    obtain ⟨j, hj, rfl⟩ := nI_of (fun q => absurd (Int32.le_iff_toInt_le.mp h2.1) (Int.not_le.mpr (Int32.lt_iff_toInt_lt.mp q)))
    have := (nI_ltI (b := 2) hj (by decide)).mp h2.2
    rcases (show j = 0 ∨ j = 1 by omega) with rfl | rfl
    · exact absurd rfl h0
    · exact absurd rfl h1
theorem and1_or (x : Int32) : x &&& 1 = 0 ∨ x &&& 1 = 1 := by
  obtain ⟨j, hj, e⟩ := pk_andE x (m := 1) 1 (by decide)
  rw [e]
  rcases (show j = 0 ∨ j = 1 by omega) with rfl | rfl
  · exact Or.inl rfl
  · exact Or.inr rfl
theorem mkd_no {x k : Int32} (h : (x >>> (k &&& 31)) &&& 1 = 0) : mkd x k = false := by
  unfold mkd; rw [h]; rfl
theorem mkd_yes {x k : Int32} (h : ¬ (x >>> (k &&& 31)) &&& 1 = 0) : mkd x k = true := by
  unfold mkd
  rcases and1_or (x >>> (k &&& 31)) with e | e
  · exact absurd e h
  · rw [e]; rfl
theorem wc_0 {tk : Int32} {tp bt crf nt : Nat → Int32} {T PF PS : Nat → Option Nat} {C : Nat → Nat → Int32} {rc g pp bn sc : Nat → Int32} {b : zR} {u : zU} {tl : List zC} : (wld (tk, tp, bt, (T, C, rc, PF, PS, g, pp, bn, sc), b, crf, nt) u tl)[0]? = some (.inr (.inr (10, [.ref 1, .ref 3, .ref 23, .ref 43, .ref 44, .int (tk)]))) := rfl
theorem wc_1 {tk : Int32} {tp bt crf nt : Nat → Int32} {T PF PS : Nat → Option Nat} {C : Nat → Nat → Int32} {rc g pp bn sc : Nat → Int32} {b : zR} {u : zU} {tl : List zC} : (wld (tk, tp, bt, (T, C, rc, PF, PS, g, pp, bn, sc), b, crf, nt) u tl)[1]? = some (.inr (.inr (7, [.ref 2, .int (tp 0), .int (tp 1), .int (tp 2), .int (tp 3), .int (tp 4), .int (tp 5), .int (tp 6), .int (tp 7)]))) := rfl
theorem wc_2 {tk : Int32} {tp bt crf nt : Nat → Int32} {T PF PS : Nat → Option Nat} {C : Nat → Nat → Int32} {rc g pp bn sc : Nat → Int32} {b : zR} {u : zU} {tl : List zC} : (wld (tk, tp, bt, (T, C, rc, PF, PS, g, pp, bn, sc), b, crf, nt) u tl)[2]? = some (.inl (24, bt)) := rfl
theorem wc_3 {tk : Int32} {tp bt crf nt : Nat → Int32} {T PF PS : Nat → Option Nat} {C : Nat → Nat → Int32} {rc g pp bn sc : Nat → Int32} {b : zR} {u : zU} {tl : List zC} : (wld (tk, tp, bt, (T, C, rc, PF, PS, g, pp, bn, sc), b, crf, nt) u tl)[3]? = some (.inr (.inr (6, [.ref 4, .ref 5, .ref 18, .ref 19, .ref 20, .ref 21, .ref 22, .int (sc 0), .int (sc 1), .int (sc 2), .int (sc 3)]))) := rfl
theorem wc_4 {tk : Int32} {tp bt crf nt : Nat → Int32} {T PF PS : Nat → Option Nat} {C : Nat → Nat → Int32} {rc g pp bn sc : Nat → Int32} {b : zR} {u : zU} {tl : List zC} : (wld (tk, tp, bt, (T, C, rc, PF, PS, g, pp, bn, sc), b, crf, nt) u tl)[4]? = some (.inr (.inl (1, 30, T))) := rfl
theorem wc_5 {tk : Int32} {tp bt crf nt : Nat → Int32} {T PF PS : Nat → Option Nat} {C : Nat → Nat → Int32} {rc g pp bn sc : Nat → Int32} {b : zR} {u : zU} {tl : List zC} : (wld (tk, tp, bt, (T, C, rc, PF, PS, g, pp, bn, sc), b, crf, nt) u tl)[5]? = some (.inr (.inl (0, 6, lrow 6))) := rfl
theorem wc_6 {tk : Int32} {tp bt crf nt : Nat → Int32} {T PF PS : Nat → Option Nat} {C : Nat → Nat → Int32} {rc g pp bn sc : Nat → Int32} {b : zR} {u : zU} {tl : List zC} : (wld (tk, tp, bt, (T, C, rc, PF, PS, g, pp, bn, sc), b, crf, nt) u tl)[6]? = some (.inr (.inr (4, [.ref 7, .int (rc 0)]))) := rfl
theorem wc_7 {tk : Int32} {tp bt crf nt : Nat → Int32} {T PF PS : Nat → Option Nat} {C : Nat → Nat → Int32} {rc g pp bn sc : Nat → Int32} {b : zR} {u : zU} {tl : List zC} : (wld (tk, tp, bt, (T, C, rc, PF, PS, g, pp, bn, sc), b, crf, nt) u tl)[7]? = some (.inl (7, C 0)) := rfl
theorem wc_8 {tk : Int32} {tp bt crf nt : Nat → Int32} {T PF PS : Nat → Option Nat} {C : Nat → Nat → Int32} {rc g pp bn sc : Nat → Int32} {b : zR} {u : zU} {tl : List zC} : (wld (tk, tp, bt, (T, C, rc, PF, PS, g, pp, bn, sc), b, crf, nt) u tl)[8]? = some (.inr (.inr (4, [.ref 9, .int (rc 1)]))) := rfl
theorem wc_9 {tk : Int32} {tp bt crf nt : Nat → Int32} {T PF PS : Nat → Option Nat} {C : Nat → Nat → Int32} {rc g pp bn sc : Nat → Int32} {b : zR} {u : zU} {tl : List zC} : (wld (tk, tp, bt, (T, C, rc, PF, PS, g, pp, bn, sc), b, crf, nt) u tl)[9]? = some (.inl (7, C 1)) := rfl
theorem wc_10 {tk : Int32} {tp bt crf nt : Nat → Int32} {T PF PS : Nat → Option Nat} {C : Nat → Nat → Int32} {rc g pp bn sc : Nat → Int32} {b : zR} {u : zU} {tl : List zC} : (wld (tk, tp, bt, (T, C, rc, PF, PS, g, pp, bn, sc), b, crf, nt) u tl)[10]? = some (.inr (.inr (4, [.ref 11, .int (rc 2)]))) := rfl
theorem wc_11 {tk : Int32} {tp bt crf nt : Nat → Int32} {T PF PS : Nat → Option Nat} {C : Nat → Nat → Int32} {rc g pp bn sc : Nat → Int32} {b : zR} {u : zU} {tl : List zC} : (wld (tk, tp, bt, (T, C, rc, PF, PS, g, pp, bn, sc), b, crf, nt) u tl)[11]? = some (.inl (7, C 2)) := rfl
theorem wc_12 {tk : Int32} {tp bt crf nt : Nat → Int32} {T PF PS : Nat → Option Nat} {C : Nat → Nat → Int32} {rc g pp bn sc : Nat → Int32} {b : zR} {u : zU} {tl : List zC} : (wld (tk, tp, bt, (T, C, rc, PF, PS, g, pp, bn, sc), b, crf, nt) u tl)[12]? = some (.inr (.inr (4, [.ref 13, .int (rc 3)]))) := rfl
theorem wc_13 {tk : Int32} {tp bt crf nt : Nat → Int32} {T PF PS : Nat → Option Nat} {C : Nat → Nat → Int32} {rc g pp bn sc : Nat → Int32} {b : zR} {u : zU} {tl : List zC} : (wld (tk, tp, bt, (T, C, rc, PF, PS, g, pp, bn, sc), b, crf, nt) u tl)[13]? = some (.inl (7, C 3)) := rfl
theorem wc_14 {tk : Int32} {tp bt crf nt : Nat → Int32} {T PF PS : Nat → Option Nat} {C : Nat → Nat → Int32} {rc g pp bn sc : Nat → Int32} {b : zR} {u : zU} {tl : List zC} : (wld (tk, tp, bt, (T, C, rc, PF, PS, g, pp, bn, sc), b, crf, nt) u tl)[14]? = some (.inr (.inr (4, [.ref 15, .int (rc 4)]))) := rfl
theorem wc_15 {tk : Int32} {tp bt crf nt : Nat → Int32} {T PF PS : Nat → Option Nat} {C : Nat → Nat → Int32} {rc g pp bn sc : Nat → Int32} {b : zR} {u : zU} {tl : List zC} : (wld (tk, tp, bt, (T, C, rc, PF, PS, g, pp, bn, sc), b, crf, nt) u tl)[15]? = some (.inl (7, C 4)) := rfl
theorem wc_16 {tk : Int32} {tp bt crf nt : Nat → Int32} {T PF PS : Nat → Option Nat} {C : Nat → Nat → Int32} {rc g pp bn sc : Nat → Int32} {b : zR} {u : zU} {tl : List zC} : (wld (tk, tp, bt, (T, C, rc, PF, PS, g, pp, bn, sc), b, crf, nt) u tl)[16]? = some (.inr (.inr (4, [.ref 17, .int (rc 5)]))) := rfl
theorem wc_17 {tk : Int32} {tp bt crf nt : Nat → Int32} {T PF PS : Nat → Option Nat} {C : Nat → Nat → Int32} {rc g pp bn sc : Nat → Int32} {b : zR} {u : zU} {tl : List zC} : (wld (tk, tp, bt, (T, C, rc, PF, PS, g, pp, bn, sc), b, crf, nt) u tl)[17]? = some (.inl (7, C 5)) := rfl
theorem wc_18 {tk : Int32} {tp bt crf nt : Nat → Int32} {T PF PS : Nat → Option Nat} {C : Nat → Nat → Int32} {rc g pp bn sc : Nat → Int32} {b : zR} {u : zU} {tl : List zC} : (wld (tk, tp, bt, (T, C, rc, PF, PS, g, pp, bn, sc), b, crf, nt) u tl)[18]? = some (.inr (.inl (1, 10, PF))) := rfl
theorem wc_19 {tk : Int32} {tp bt crf nt : Nat → Int32} {T PF PS : Nat → Option Nat} {C : Nat → Nat → Int32} {rc g pp bn sc : Nat → Int32} {b : zR} {u : zU} {tl : List zC} : (wld (tk, tp, bt, (T, C, rc, PF, PS, g, pp, bn, sc), b, crf, nt) u tl)[19]? = some (.inr (.inl (1, 10, PS))) := rfl
theorem wc_20 {tk : Int32} {tp bt crf nt : Nat → Int32} {T PF PS : Nat → Option Nat} {C : Nat → Nat → Int32} {rc g pp bn sc : Nat → Int32} {b : zR} {u : zU} {tl : List zC} : (wld (tk, tp, bt, (T, C, rc, PF, PS, g, pp, bn, sc), b, crf, nt) u tl)[20]? = some (.inl (2, g)) := rfl
theorem wc_21 {tk : Int32} {tp bt crf nt : Nat → Int32} {T PF PS : Nat → Option Nat} {C : Nat → Nat → Int32} {rc g pp bn sc : Nat → Int32} {b : zR} {u : zU} {tl : List zC} : (wld (tk, tp, bt, (T, C, rc, PF, PS, g, pp, bn, sc), b, crf, nt) u tl)[21]? = some (.inl (10, pp)) := rfl
theorem wc_22 {tk : Int32} {tp bt crf nt : Nat → Int32} {T PF PS : Nat → Option Nat} {C : Nat → Nat → Int32} {rc g pp bn sc : Nat → Int32} {b : zR} {u : zU} {tl : List zC} : (wld (tk, tp, bt, (T, C, rc, PF, PS, g, pp, bn, sc), b, crf, nt) u tl)[22]? = some (.inr (.inr (0, [.int (bn 0), .int (bn 1), .int (bn 2), .int (bn 3)]))) := rfl
theorem wc_43 {tk : Int32} {tp bt crf nt : Nat → Int32} {T PF PS : Nat → Option Nat} {C : Nat → Nat → Int32} {rc g pp bn sc : Nat → Int32} {b : zR} {u : zU} {tl : List zC} : (wld (tk, tp, bt, (T, C, rc, PF, PS, g, pp, bn, sc), b, crf, nt) u tl)[43]? = some (.inl (7, crf)) := rfl
theorem wc_44 {tk : Int32} {tp bt crf nt : Nat → Int32} {T PF PS : Nat → Option Nat} {C : Nat → Nat → Int32} {rc g pp bn sc : Nat → Int32} {b : zR} {u : zU} {tl : List zC} : (wld (tk, tp, bt, (T, C, rc, PF, PS, g, pp, bn, sc), b, crf, nt) u tl)[44]? = some (.inl (30, nt)) := rfl
theorem wc_law {tk : Int32} {tp bt crf nt : Nat → Int32} {T PF PS : Nat → Option Nat} {C : Nat → Nat → Int32} {rc g pp bn sc : Nat → Int32} {b : zR} {u : zU} {tl : List zC} {l : Nat} (hl : l < 6) : (wld (tk, tp, bt, (T, C, rc, PF, PS, g, pp, bn, sc), b, crf, nt) u tl)[6 + 2 * l]? = some (.inr (.inr (4, [.ref (7 + 2 * l), .int (rc l)]))) := by
  rcases (show l = 0 ∨ l = 1 ∨ l = 2 ∨ l = 3 ∨ l = 4 ∨ l = 5 by omega) with rfl | rfl | rfl | rfl | rfl | rfl <;> rfl
theorem wc_cond {tk : Int32} {tp bt crf nt : Nat → Int32} {T PF PS : Nat → Option Nat} {C : Nat → Nat → Int32} {rc g pp bn sc : Nat → Int32} {b : zR} {u : zU} {tl : List zC} {l : Nat} (hl : l < 6) : (wld (tk, tp, bt, (T, C, rc, PF, PS, g, pp, bn, sc), b, crf, nt) u tl)[7 + 2 * l]? = some (.inl (7, C l)) := by
  rcases (show l = 0 ∨ l = 1 ∨ l = 2 ∨ l = 3 ∨ l = 4 ∨ l = 5 by omega) with rfl | rfl | rfl | rfl | rfl | rfl <;> rfl
def zTel : List Nat := [1, 2, 3, 5, 8, 9]
def kci (k : Int32) : Nat := if k = 5 then 1 else if k = 3 then 2 else if k = 4 then 3 else if k = 1 then 5 else if k = 2 then 8 else 9
theorem kci_mem (k : Int32) : kci k ∈ zTel := by
  unfold kci
  repeat (first | (split; · decide) | decide)
/-- a Telling's cell: its class by its kind -/
abbrev tcell (v : Nat → Int32) : zC := .inr (.inr (kci (kdV (v 3) (v 4) (v 5)), [.int (v 0), .int (v 1), .int (v 2), .int (v 3), .int (v 4), .int (v 5)]))
theorem flT_Tel_15 {ci : Nat} (h : ci ∈ zTel) : zfl "LightInRoom$Telling" 15 ci 0 := by
  simp only [zTel, List.mem_cons, List.not_mem_nil, or_false] at h
  rcases h with rfl | rfl | rfl | rfl | rfl | rfl
  · exact fl_Tel_15_1
  · exact fl_Tel_15_2
  · exact fl_Tel_15_3
  · exact fl_Tel_15_5
  · exact fl_Tel_15_8
  · exact fl_Tel_15_9
theorem flT_Ben_27 {ci : Nat} (h : ci ∈ zTel) : zfl "LightInRoom$Bench" 27 ci 0 := by
  simp only [zTel, List.mem_cons, List.not_mem_nil, or_false] at h
  rcases h with rfl | rfl | rfl | rfl | rfl | rfl
  · exact fl_Ben_27_1
  · exact fl_Ben_27_2
  · exact fl_Ben_27_3
  · exact fl_Ben_27_5
  · exact fl_Ben_27_8
  · exact fl_Ben_27_9
theorem flT_Lir_78 {ci : Nat} (h : ci ∈ zTel) : zfl "LightInRoom" 78 ci 0 := by
  simp only [zTel, List.mem_cons, List.not_mem_nil, or_false] at h
  rcases h with rfl | rfl | rfl | rfl | rfl | rfl
  · exact fl_Lir_78_1
  · exact fl_Lir_78_2
  · exact fl_Lir_78_3
  · exact fl_Lir_78_5
  · exact fl_Lir_78_8
  · exact fl_Lir_78_9
theorem flT_Tel_21 {ci : Nat} (h : ci ∈ zTel) : zfl "LightInRoom$Telling" 21 ci 1 := by
  simp only [zTel, List.mem_cons, List.not_mem_nil, or_false] at h
  rcases h with rfl | rfl | rfl | rfl | rfl | rfl
  · exact fl_Tel_21_1
  · exact fl_Tel_21_2
  · exact fl_Tel_21_3
  · exact fl_Tel_21_5
  · exact fl_Tel_21_8
  · exact fl_Tel_21_9
theorem flT_Ben_28 {ci : Nat} (h : ci ∈ zTel) : zfl "LightInRoom$Bench" 28 ci 1 := by
  simp only [zTel, List.mem_cons, List.not_mem_nil, or_false] at h
  rcases h with rfl | rfl | rfl | rfl | rfl | rfl
  · exact fl_Ben_28_1
  · exact fl_Ben_28_2
  · exact fl_Ben_28_3
  · exact fl_Ben_28_5
  · exact fl_Ben_28_8
  · exact fl_Ben_28_9
theorem flT_Lir_83 {ci : Nat} (h : ci ∈ zTel) : zfl "LightInRoom" 83 ci 1 := by
  simp only [zTel, List.mem_cons, List.not_mem_nil, or_false] at h
  rcases h with rfl | rfl | rfl | rfl | rfl | rfl
  · exact fl_Lir_83_1
  · exact fl_Lir_83_2
  · exact fl_Lir_83_3
  · exact fl_Lir_83_5
  · exact fl_Lir_83_8
  · exact fl_Lir_83_9
theorem flT_Tel_25 {ci : Nat} (h : ci ∈ zTel) : zfl "LightInRoom$Telling" 25 ci 2 := by
  simp only [zTel, List.mem_cons, List.not_mem_nil, or_false] at h
  rcases h with rfl | rfl | rfl | rfl | rfl | rfl
  · exact fl_Tel_25_1
  · exact fl_Tel_25_2
  · exact fl_Tel_25_3
  · exact fl_Tel_25_5
  · exact fl_Tel_25_8
  · exact fl_Tel_25_9
theorem flT_Ben_29 {ci : Nat} (h : ci ∈ zTel) : zfl "LightInRoom$Bench" 29 ci 2 := by
  simp only [zTel, List.mem_cons, List.not_mem_nil, or_false] at h
  rcases h with rfl | rfl | rfl | rfl | rfl | rfl
  · exact fl_Ben_29_1
  · exact fl_Ben_29_2
  · exact fl_Ben_29_3
  · exact fl_Ben_29_5
  · exact fl_Ben_29_8
  · exact fl_Ben_29_9
theorem flT_Law_23 {ci : Nat} (h : ci ∈ zTel) : zfl "LightInRoom$Law" 23 ci 2 := by
  simp only [zTel, List.mem_cons, List.not_mem_nil, or_false] at h
  rcases h with rfl | rfl | rfl | rfl | rfl | rfl
  · exact fl_Law_23_1
  · exact fl_Law_23_2
  · exact fl_Law_23_3
  · exact fl_Law_23_5
  · exact fl_Law_23_8
  · exact fl_Law_23_9
theorem flT_Lir_86 {ci : Nat} (h : ci ∈ zTel) : zfl "LightInRoom" 86 ci 2 := by
  simp only [zTel, List.mem_cons, List.not_mem_nil, or_false] at h
  rcases h with rfl | rfl | rfl | rfl | rfl | rfl
  · exact fl_Lir_86_1
  · exact fl_Lir_86_2
  · exact fl_Lir_86_3
  · exact fl_Lir_86_5
  · exact fl_Lir_86_8
  · exact fl_Lir_86_9
theorem flT_Tel_29 {ci : Nat} (h : ci ∈ zTel) : zfl "LightInRoom$Telling" 29 ci 3 := by
  simp only [zTel, List.mem_cons, List.not_mem_nil, or_false] at h
  rcases h with rfl | rfl | rfl | rfl | rfl | rfl
  · exact fl_Tel_29_1
  · exact fl_Tel_29_2
  · exact fl_Tel_29_3
  · exact fl_Tel_29_5
  · exact fl_Tel_29_8
  · exact fl_Tel_29_9
theorem flT_Ben_24 {ci : Nat} (h : ci ∈ zTel) : zfl "LightInRoom$Bench" 24 ci 3 := by
  simp only [zTel, List.mem_cons, List.not_mem_nil, or_false] at h
  rcases h with rfl | rfl | rfl | rfl | rfl | rfl
  · exact fl_Ben_24_1
  · exact fl_Ben_24_2
  · exact fl_Ben_24_3
  · exact fl_Ben_24_5
  · exact fl_Ben_24_8
  · exact fl_Ben_24_9
theorem flT_Law_32 {ci : Nat} (h : ci ∈ zTel) : zfl "LightInRoom$Law" 32 ci 3 := by
  simp only [zTel, List.mem_cons, List.not_mem_nil, or_false] at h
  rcases h with rfl | rfl | rfl | rfl | rfl | rfl
  · exact fl_Law_32_1
  · exact fl_Law_32_2
  · exact fl_Law_32_3
  · exact fl_Law_32_5
  · exact fl_Law_32_8
  · exact fl_Law_32_9
theorem flT_Lir_89 {ci : Nat} (h : ci ∈ zTel) : zfl "LightInRoom" 89 ci 3 := by
  simp only [zTel, List.mem_cons, List.not_mem_nil, or_false] at h
  rcases h with rfl | rfl | rfl | rfl | rfl | rfl
  · exact fl_Lir_89_1
  · exact fl_Lir_89_2
  · exact fl_Lir_89_3
  · exact fl_Lir_89_5
  · exact fl_Lir_89_8
  · exact fl_Lir_89_9
theorem flT_Roo_126 {ci : Nat} (h : ci ∈ zTel) : zfl "LightInRoom$Room" 126 ci 3 := by
  simp only [zTel, List.mem_cons, List.not_mem_nil, or_false] at h
  rcases h with rfl | rfl | rfl | rfl | rfl | rfl
  · exact fl_Roo_126_1
  · exact fl_Roo_126_2
  · exact fl_Roo_126_3
  · exact fl_Roo_126_5
  · exact fl_Roo_126_8
  · exact fl_Roo_126_9
theorem flT_Tel_33 {ci : Nat} (h : ci ∈ zTel) : zfl "LightInRoom$Telling" 33 ci 4 := by
  simp only [zTel, List.mem_cons, List.not_mem_nil, or_false] at h
  rcases h with rfl | rfl | rfl | rfl | rfl | rfl
  · exact fl_Tel_33_1
  · exact fl_Tel_33_2
  · exact fl_Tel_33_3
  · exact fl_Tel_33_5
  · exact fl_Tel_33_8
  · exact fl_Tel_33_9
theorem flT_Lir_92 {ci : Nat} (h : ci ∈ zTel) : zfl "LightInRoom" 92 ci 4 := by
  simp only [zTel, List.mem_cons, List.not_mem_nil, or_false] at h
  rcases h with rfl | rfl | rfl | rfl | rfl | rfl
  · exact fl_Lir_92_1
  · exact fl_Lir_92_2
  · exact fl_Lir_92_3
  · exact fl_Lir_92_5
  · exact fl_Lir_92_8
  · exact fl_Lir_92_9
theorem flT_Roo_98 {ci : Nat} (h : ci ∈ zTel) : zfl "LightInRoom$Room" 98 ci 4 := by
  simp only [zTel, List.mem_cons, List.not_mem_nil, or_false] at h
  rcases h with rfl | rfl | rfl | rfl | rfl | rfl
  · exact fl_Roo_98_1
  · exact fl_Roo_98_2
  · exact fl_Roo_98_3
  · exact fl_Roo_98_5
  · exact fl_Roo_98_8
  · exact fl_Roo_98_9
theorem flT_Tel_38 {ci : Nat} (h : ci ∈ zTel) : zfl "LightInRoom$Telling" 38 ci 5 := by
  simp only [zTel, List.mem_cons, List.not_mem_nil, or_false] at h
  rcases h with rfl | rfl | rfl | rfl | rfl | rfl
  · exact fl_Tel_38_1
  · exact fl_Tel_38_2
  · exact fl_Tel_38_3
  · exact fl_Tel_38_5
  · exact fl_Tel_38_8
  · exact fl_Tel_38_9
theorem flT_Lir_95 {ci : Nat} (h : ci ∈ zTel) : zfl "LightInRoom" 95 ci 5 := by
  simp only [zTel, List.mem_cons, List.not_mem_nil, or_false] at h
  rcases h with rfl | rfl | rfl | rfl | rfl | rfl
  · exact fl_Lir_95_1
  · exact fl_Lir_95_2
  · exact fl_Lir_95_3
  · exact fl_Lir_95_5
  · exact fl_Lir_95_8
  · exact fl_Lir_95_9
theorem flT_Roo_119 {ci : Nat} (h : ci ∈ zTel) : zfl "LightInRoom$Room" 119 ci 5 := by
  simp only [zTel, List.mem_cons, List.not_mem_nil, or_false] at h
  rcases h with rfl | rfl | rfl | rfl | rfl | rfl
  · exact fl_Roo_119_1
  · exact fl_Roo_119_2
  · exact fl_Roo_119_3
  · exact fl_Roo_119_5
  · exact fl_Roo_119_8
  · exact fl_Roo_119_9
set_option maxHeartbeats 400000 in
theorem r_Lir_outside {hp : List zC} (v a b : Int32) : Ret 0 0 0 m_Lir_outside [.int v, .int a, .int b] (hp) (some (.int (if v < a then -4 else if b < v then -6 else 0))) (hp) := by
  refine Ret.of (n := 0) (by decide) (rfl) rfl (fun X => ?_)
  refine z_iload_n d_Lir_outside_0 rfl 1 rfl ?_
  refine z_iload_n d_Lir_outside_1 rfl 2 rfl ?_
  refine z_icmp_ge d_Lir_outside_2 8 5 (by decide) rfl (fun h1 => ?_) (fun h1 => ?_)
  · refine z_iload_n d_Lir_outside_8 rfl 9 rfl ?_
    refine z_iload_n d_Lir_outside_9 rfl 10 rfl ?_
    refine z_icmp_le d_Lir_outside_10 18 13 (by decide) rfl (fun h2 => ?_) (fun h2 => ?_)
    · refine z_iconst d_Lir_outside_18 0 (by decide) 19 rfl ?_
      exact z_ireturn d_Lir_outside_19 (by first | (simp [zb, *]; done) | (simp_all [zb, ← Int32.not_le]; done)) (rfl)
    · refine z_bipush d_Lir_outside_13 (-6) (by decide) 15 rfl ?_
      refine z_goto d_Lir_outside_15 19 (by decide) ?_
      exact z_ireturn d_Lir_outside_19 (by first | (simp [zb, *]; done) | (simp_all [zb, ← Int32.not_le]; done)) (rfl)
  · refine z_bipush d_Lir_outside_5 (-4) (by decide) 7 rfl ?_
    exact z_ireturn d_Lir_outside_7 (by first | (simp [zb, *]; done) | (simp_all [zb, ← Int32.not_le]; done)) (rfl)
set_option maxHeartbeats 400000 in
theorem r_Lir_isSizeOrSeconds {hp : List zC} (w : Int32) : Ret 0 0 0 m_Lir_isSizeOrSeconds [.int w] (hp) (some (.int (zb (inR w 2)))) (hp) := by
  refine Ret.of (n := 0) (by decide) (zb_nar _) rfl (fun X => ?_)
  refine z_iload_n d_Lir_isSizeOrSeconds_0 rfl 1 rfl ?_
  refine z_if_eq d_Lir_isSizeOrSeconds_1 9 4 (by decide) rfl (fun h1 => ?_) (fun h1 => ?_)
  · refine z_iconst d_Lir_isSizeOrSeconds_9 1 (by decide) 10 rfl ?_
    refine z_goto d_Lir_isSizeOrSeconds_10 14 (by decide) ?_
    exact z_ireturn d_Lir_isSizeOrSeconds_14 (by first | (subst_vars; rfl) | (rw [inR2_no (by assumption) (by assumption)]; rfl) | (rename_i h1 h2; subst_vars; rfl)) (rfl)
  · refine z_iload_n d_Lir_isSizeOrSeconds_4 rfl 5 rfl ?_
    refine z_iconst d_Lir_isSizeOrSeconds_5 1 (by decide) 6 rfl ?_
    refine z_icmp_ne d_Lir_isSizeOrSeconds_6 13 9 (by decide) rfl (fun h2 => ?_) (fun h2 => ?_)
    · refine z_iconst d_Lir_isSizeOrSeconds_13 0 (by decide) 14 rfl ?_
      exact z_ireturn d_Lir_isSizeOrSeconds_14 (by first | (subst_vars; rfl) | (rw [inR2_no (by assumption) (by assumption)]; rfl) | (rename_i h1 h2; subst_vars; rfl)) (rfl)
    · refine z_iconst d_Lir_isSizeOrSeconds_9 1 (by decide) 10 rfl ?_
      refine z_goto d_Lir_isSizeOrSeconds_10 14 (by decide) ?_
      exact z_ireturn d_Lir_isSizeOrSeconds_14 (by first | (subst_vars; rfl) | (rw [inR2_no (by assumption) (by assumption)]; rfl) | (rename_i h1 h2; subst_vars; rfl)) (rfl)
set_option maxHeartbeats 400000 in
theorem r_Lir_isPart {hp : List zC} (w : Int32) : Ret 0 0 0 m_Lir_isPart [.int w] (hp) (some (.int (zb (inR w 2)))) (hp) := by
  refine Ret.of (n := 0) (by decide) (zb_nar _) rfl (fun X => ?_)
  refine z_iload_n d_Lir_isPart_0 rfl 1 rfl ?_
  refine z_if_eq d_Lir_isPart_1 9 4 (by decide) rfl (fun h1 => ?_) (fun h1 => ?_)
  · refine z_iconst d_Lir_isPart_9 1 (by decide) 10 rfl ?_
    refine z_goto d_Lir_isPart_10 14 (by decide) ?_
    exact z_ireturn d_Lir_isPart_14 (by first | (subst_vars; rfl) | (rw [inR2_no (by assumption) (by assumption)]; rfl)) (rfl)
  · refine z_iload_n d_Lir_isPart_4 rfl 5 rfl ?_
    refine z_iconst d_Lir_isPart_5 1 (by decide) 6 rfl ?_
    refine z_icmp_ne d_Lir_isPart_6 13 9 (by decide) rfl (fun h2 => ?_) (fun h2 => ?_)
    · refine z_iconst d_Lir_isPart_13 0 (by decide) 14 rfl ?_
      exact z_ireturn d_Lir_isPart_14 (by first | (subst_vars; rfl) | (rw [inR2_no (by assumption) (by assumption)]; rfl)) (rfl)
    · refine z_iconst d_Lir_isPart_9 1 (by decide) 10 rfl ?_
      refine z_goto d_Lir_isPart_10 14 (by decide) ?_
      exact z_ireturn d_Lir_isPart_14 (by first | (subst_vars; rfl) | (rw [inR2_no (by assumption) (by assumption)]; rfl)) (rfl)
set_option maxHeartbeats 400000 in
theorem r_Lir_isMark {hp : List zC} (w : Int32) : Ret 0 0 0 m_Lir_isMark [.int w] (hp) (some (.int (zb (inR w 8)))) (hp) := by
  refine Ret.of (n := 0) (by decide) (zb_nar _) rfl (fun X => ?_)
  refine z_iload_n d_Lir_isMark_0 rfl 1 rfl ?_
  refine z_if_lt d_Lir_isMark_1 14 4 (by decide) rfl (fun h1 => ?_) (fun h1 => ?_)
  · refine z_iconst d_Lir_isMark_14 0 (by decide) 15 rfl ?_
    exact z_ireturn d_Lir_isMark_15 (by first | (simp [zb, inR, *]; done) | (simp_all [zb, inR, ← Int32.not_le]; done)) (rfl)
  · refine z_iload_n d_Lir_isMark_4 rfl 5 rfl ?_
    refine z_bipush d_Lir_isMark_5 8 (by decide) 7 rfl ?_
    refine z_icmp_ge d_Lir_isMark_7 14 10 (by decide) rfl (fun h2 => ?_) (fun h2 => ?_)
    · refine z_iconst d_Lir_isMark_14 0 (by decide) 15 rfl ?_
      exact z_ireturn d_Lir_isMark_15 (by first | (simp [zb, inR, *]; done) | (simp_all [zb, inR, ← Int32.not_le]; done)) (rfl)
    · refine z_iconst d_Lir_isMark_10 1 (by decide) 11 rfl ?_
      refine z_goto d_Lir_isMark_11 15 (by decide) ?_
      exact z_ireturn d_Lir_isMark_15 (by first | (simp [zb, inR, *]; done) | (simp_all [zb, inR, ← Int32.not_le]; done)) (rfl)
set_option maxHeartbeats 400000 in
theorem r_Lir_hasBit {hp : List zC} (x k : Int32) : Ret 0 0 0 m_Lir_hasBit [.int x, .int k] (hp) (some (.int (zb (mkd x k)))) (hp) := by
  refine Ret.of (n := 0) (by decide) (zb_nar _) rfl (fun X => ?_)
  refine z_iload_n d_Lir_hasBit_0 rfl 1 rfl ?_
  refine z_iload_n d_Lir_hasBit_1 rfl 2 rfl ?_
  refine z_ishr d_Lir_hasBit_2 3 rfl ?_
  refine z_iconst d_Lir_hasBit_3 1 (by decide) 4 rfl ?_
  refine z_iand d_Lir_hasBit_4 5 rfl ?_
  refine z_if_eq d_Lir_hasBit_5 12 8 (by decide) rfl (fun h1 => ?_) (fun h1 => ?_)
  · refine z_iconst d_Lir_hasBit_12 0 (by decide) 13 rfl ?_
    exact z_ireturn d_Lir_hasBit_13 (by first | (rw [mkd_no (by assumption)]; rfl) | (rw [mkd_yes (by assumption)]; rfl)) (rfl)
  · refine z_iconst d_Lir_hasBit_8 1 (by decide) 9 rfl ?_
    refine z_goto d_Lir_hasBit_9 13 (by decide) ?_
    exact z_ireturn d_Lir_hasBit_13 (by first | (rw [mkd_no (by assumption)]; rfl) | (rw [mkd_yes (by assumption)]; rfl)) (rfl)
set_option maxHeartbeats 400000 in
theorem r_Lir_hundredths {hp : List zC} (x y : Int32) : Ret 0 0 0 m_Lir_hundredths [.int x, .int y] (hp) (some (.int (if y < 1 then 0 else 100 * x / y))) (hp) := by
  refine Ret.of (n := 0) (by decide) (rfl) rfl (fun X => ?_)
  refine z_iload_n d_Lir_hundredths_0 rfl 1 rfl ?_
  refine z_iconst d_Lir_hundredths_1 1 (by decide) 2 rfl ?_
  refine z_icmp_ge d_Lir_hundredths_2 9 5 (by decide) rfl (fun h1 => ?_) (fun h1 => ?_)
  · refine z_bipush d_Lir_hundredths_9 100 (by decide) 11 rfl ?_
    refine z_iload_n d_Lir_hundredths_11 rfl 12 rfl ?_
    refine z_imul d_Lir_hundredths_12 13 rfl ?_
    refine z_iload_n d_Lir_hundredths_13 rfl 14 rfl ?_
    refine z_idiv d_Lir_hundredths_14 (fun e => by rw [e] at h1; exact absurd h1 (by decide)) 15 rfl ?_
    exact z_ireturn d_Lir_hundredths_15 (by simp_all [← Int32.not_le]) (rfl)
  · refine z_iconst d_Lir_hundredths_5 0 (by decide) 6 rfl ?_
    refine z_goto d_Lir_hundredths_6 15 (by decide) ?_
    exact z_ireturn d_Lir_hundredths_15 (by simp_all [← Int32.not_le]) (rfl)
