/-! ONE CALL ON BOTH: the answers agree, the relation stays -/
def RZ (a : zR) (s : Nat → Int32) (tl : List zC) (n q : Nat) : Prop := RR a.1 a.2.2.2.1 a.2.2.2.2.1 a.2.1 a.2.2.1 a.2.2.2.2.2.1 a.2.2.2.2.2.2.1 a.2.2.2.2.2.2.2.1 a.2.2.2.2.2.2.2.2 s tl n q
def SD (tk : Int32) (p : Nat) (bt : Nat → Int32) (b : zR) (im md : Nat → Int32) (tl : List zC) : Prop := (tk = 0 ∨ ∃ n2 q2, RZ b im tl n2 q2) ∧ md 0 = tk ∧ md 1 = nI p ∧ p ≤ 24 ∧ BTS bt p
def INV (hp : List zC) : Prop := ∃ (tk : Int32) (p pq : Nat) (x1 x2 x3 x4 x5 x6 : Int32) (bt : Nat → Int32) (a b : zR) (rf nt s im rd md : Nat → Int32) (tl : List zC) (n q : Nat),
  hp = wld (tk, tpf p pq x1 x2 x3 x4 x5 x6, bt, a, b, rf, nt) (rf, s, im, bt, rd, md) tl ∧ RZ a s tl n q ∧ SD tk p bt b im md tl
theorem INV.mk {tk : Int32} {p pq : Nat} {x1 x2 x3 x4 x5 x6 : Int32} {bt : Nat → Int32} {T PF PS : Nat → Option Nat} {C : Nat → Nat → Int32} {rc g pp bn sc : Nat → Int32} {b : zR} {rf rf2 nt s im rd md : Nat → Int32} {tl : List zC} {n q : Nat} (I : RR T PF PS C rc g pp bn sc s tl n q) (J : SD tk p bt b im md tl) (h : rf = rf2) : INV (wld (tk, tpf p pq x1 x2 x3 x4 x5 x6, bt, (T, C, rc, PF, PS, g, pp, bn, sc), b, rf, nt) (rf2, s, im, bt, rd, md) tl) := by
  subst h
  exact ⟨tk, p, pq, x1, x2, x3, x4, x5, x6, bt, _, b, rf, nt, s, im, rd, md, tl, n, q, rfl, I, J⟩
def ST (Mc Mm : zM) (as : List Value) : Prop := ∀ hp, INV hp → ∃ (r : Int32) (hp1 hp2 : List zC) (d1 d2 mc ms : Nat) (f1 f2 : List Value), (mc ≤ 1 ∧ ms ≤ 6 ∧ d1 ≤ 39 ∧ d2 ≤ 39) ∧ hp[0]? = some (.inr (.inr (10, f1))) ∧ Ret d1 mc ms Mc (.ref 0 :: as) hp (some (.int r)) hp1 ∧ hp1[45]? = some (.inr (.inr (11, f2))) ∧ Ret d2 0 0 Mm (.ref 45 :: as) hp1 (some (.int r)) hp2 ∧ INV hp2
theorem ST.go {Mc Mm : zM} {as : List Value} {K K1 : zKK} {u u2 : zU} {tl tl1 : List zC} {r r2 : Int32} {d1 d2 mc ms : Nat} (h1 : Ret d1 mc ms Mc (.ref 0 :: as) (wld K u tl) (some (.int r)) (wld K1 u tl1)) (h2 : Ret d2 0 0 Mm (.ref 45 :: as) (wld K1 u tl1) (some (.int r2)) (wld K1 u2 tl1)) (er : r = r2) (hb : mc ≤ 1 ∧ ms ≤ 6 ∧ d1 ≤ 39 ∧ d2 ≤ 39) (hi : INV (wld K1 u2 tl1)) :
    ∃ (r : Int32) (hp1 hp2 : List zC) (d1 d2 mc ms : Nat) (f1 f2 : List Value), (mc ≤ 1 ∧ ms ≤ 6 ∧ d1 ≤ 39 ∧ d2 ≤ 39) ∧ (wld K u tl)[0]? = some (.inr (.inr (10, f1))) ∧ Ret d1 mc ms Mc (.ref 0 :: as) (wld K u tl) (some (.int r)) hp1 ∧ hp1[45]? = some (.inr (.inr (11, f2))) ∧ Ret d2 0 0 Mm (.ref 45 :: as) hp1 (some (.int r)) hp2 ∧ INV hp2 := by
  subst er
  exact ⟨r, _, _, d1, d2, mc, ms, _, _, hb, wl_0, h1, wl_45, h2, hi⟩
theorem ixn {i : Nat} (h : i < 2 ^ 31) : ix (nI i) = i := nI_clamp h
theorem inR_f {t a : Int32} (h : ¬ inR t a = true) : inR t a = false := by
  cases e : inR t a with
  | false => rfl
  | true => exact absurd e h
theorem inR_out {w : Int32} {m : Nat} (h : ¬ inR w (nI m) = true) (hm : m < 2 ^ 31) : w.toInt < 0 ∨ (m : Int) ≤ w.toInt := by
  rcases inR_no (inR_f h) with h | h
  · exact Or.inl (by have := Int32.lt_iff_toInt_lt.mp h; rwa [show (0 : Int32).toInt = 0 from rfl] at this)
  · exact Or.inr (by have := Int32.le_iff_toInt_le.mp h; rwa [nI_toInt hm] at this)
theorem RR.cs {T PF PS : Nat → Option Nat} {C : Nat → Nat → Int32} {rc g pp bn sc s : Nat → Int32} {tl : List zC} {n q : Nat} (I : RR T PF PS C rc g pp bn sc s tl n q) : sc 0 = s 0 := by rw [I.cn, I.hn]
theorem st_kind (t : Int32) : ST m_Lir_kind m_Mod_kind [.int t] := by
  intro hp hI
  obtain ⟨tk, p, pq, x1, x2, x3, x4, x5, x6, bt, ⟨T, C, rc, PF, PS, g, pp, bn, sc⟩, b, rf, nt, s, im, rd, md, tl, n, q, rfl, I', J⟩ := hI
  have I : RR T PF PS C rc g pp bn sc s tl n q := I'
  have h30 := I.n30
  have h10 := I.q10
  refine ST.go (r_Lir_kind I.cn I.n30 I.tt t) (r_Mod_kind I.hn I.n30 t) (by rw [I.cs]) (by decide) (INV.mk I J (by rw [I.cs]))
theorem st_weight (t : Int32) : ST m_Lir_weight m_Mod_weight [.int t] := by
  intro hp hI
  obtain ⟨tk, p, pq, x1, x2, x3, x4, x5, x6, bt, ⟨T, C, rc, PF, PS, g, pp, bn, sc⟩, b, rf, nt, s, im, rd, md, tl, n, q, rfl, I', J⟩ := hI
  have I : RR T PF PS C rc g pp bn sc s tl n q := I'
  have h30 := I.n30
  have h10 := I.q10
  refine ST.go (r_Lir_weight I.cn I.n30 I.tt t) (r_Mod_weight I.hn I.n30 t) ?_ (by decide) (INV.mk I J (by rw [I.cs]))
  rw [I.cs]
  by_cases h : inR t (s 0) = true
  · rw [if_pos h, if_pos h, wtC_eq I (inR_ix h I.hn (by omega)).2]
  · rw [if_neg h, if_neg h]
theorem st_tellingOf (t w : Int32) : ST m_Lir_tellingOf m_Mod_tellingOf [.int t, .int w] := by
  intro hp hI
  obtain ⟨tk, p, pq, x1, x2, x3, x4, x5, x6, bt, ⟨T, C, rc, PF, PS, g, pp, bn, sc⟩, b, rf, nt, s, im, rd, md, tl, n, q, rfl, I', J⟩ := hI
  have I : RR T PF PS C rc g pp bn sc s tl n q := I'
  have h30 := I.n30
  have h10 := I.q10
  by_cases h : inR t (s 0) = true
  · obtain ⟨i, hi, rfl⟩ := inR_yes h I.hn (by omega)
    have hx : ix (nI i) = i := ixn (by omega)
    by_cases hw : inR w 6 = true
    · obtain ⟨j, hj, rfl⟩ := inR_yes hw (n := 6) rfl (by decide)
      rcases (show j = 0 ∨ j = 1 ∨ j = 2 ∨ j = 3 ∨ j = 4 ∨ j = 5 by omega) with rfl | rfl | rfl | rfl | rfl | rfl
      · exact ST.go (r_Lir_tellingOf_0 I.cn I.n30 I.tt i hi) (r_Mod_tellingOf I.hn I.n30 (nI i) (nI 0)) (by rw [if_pos h, if_pos hw, hx]; rfl) (by decide) (INV.mk I J (by rw [if_pos h, if_pos hw]))
      · exact ST.go (r_Lir_tellingOf_1 I.cn I.n30 I.tt i hi) (r_Mod_tellingOf I.hn I.n30 (nI i) (nI 1)) (by rw [if_pos h, if_pos hw, hx]; rfl) (by decide) (INV.mk I J (by rw [if_pos h, if_pos hw]))
      · exact ST.go (r_Lir_tellingOf_2 I.cn I.n30 I.tt i hi) (r_Mod_tellingOf I.hn I.n30 (nI i) (nI 2)) (by rw [if_pos h, if_pos hw, hx]; rfl) (by decide) (INV.mk I J (by rw [if_pos h, if_pos hw]))
      · exact ST.go (r_Lir_tellingOf_3 I.cn I.n30 I.tt i hi) (r_Mod_tellingOf I.hn I.n30 (nI i) (nI 3)) (by rw [if_pos h, if_pos hw, hx]; rfl) (by decide) (INV.mk I J (by rw [if_pos h, if_pos hw]))
      · exact ST.go (r_Lir_tellingOf_4 I.cn I.n30 I.tt i hi) (r_Mod_tellingOf I.hn I.n30 (nI i) (nI 4)) (by rw [if_pos h, if_pos hw, hx]; rfl) (by decide) (INV.mk I J (by rw [if_pos h, if_pos hw]))
      · exact ST.go (r_Lir_tellingOf_5 I.cn I.n30 I.tt i hi) (r_Mod_tellingOf I.hn I.n30 (nI i) (nI 5)) (by rw [if_pos h, if_pos hw, hx]; rcases I.rg.ta i hi with e | e <;> rw [show ix (nI 5) = 5 from rfl, e] <;> rfl) (by decide) (INV.mk I J (by rw [if_pos h, if_pos hw]))
    · refine ST.go (r_Lir_tellingOf_o I.cn I.n30 I.tt i hi w (by rcases inR_out (m := 6) hw (by decide) with h6 | h6 <;> omega)) (r_Mod_tellingOf I.hn I.n30 (nI i) w) (by rw [if_pos h, if_neg hw]) (by decide) (INV.mk I J (by rw [if_pos h, if_neg hw]))
  · exact ST.go (r_Lir_tellingOf_n I.cn I.n30 I.tt t w (by rw [I.cs]; exact inR_f h)) (r_Mod_tellingOf I.hn I.n30 t w) (by rw [if_neg h]) (by decide) (INV.mk I J (by rw [if_neg h]))
theorem st_law (l w v : Int32) : ST m_Lir_law m_Mod_law [.int l, .int w, .int v] := by
  intro hp hI
  obtain ⟨tk, p, pq, x1, x2, x3, x4, x5, x6, bt, ⟨T, C, rc, PF, PS, g, pp, bn, sc⟩, b, rf, nt, s, im, rd, md, tl, n, q, rfl, I', J⟩ := hI
  have I : RR T PF PS C rc g pp bn sc s tl n q := I'
  have h30 := I.n30
  have h10 := I.q10
  by_cases hl : inR l 6 = true
  · by_cases hw : inR w 7 = true
    · by_cases h0 : v < 0
      · refine ST.go (r_Lir_law l w v) (r_Mod_law l w v) ?_ (by decide) ?_ <;> simp only [hl, hw, h0, Bool.false_eq_true, ↓reduceIte]
        exact INV.mk I J rfl
      · by_cases h1 : (if w < 4 then (999 : Int32) else 255) < v
        · refine ST.go (r_Lir_law l w v) (r_Mod_law l w v) ?_ (by decide) ?_ <;> simp only [hl, hw, h0, h1, Bool.false_eq_true, ↓reduceIte]
          exact INV.mk I J rfl
        · refine ST.go (r_Lir_law l w v) (r_Mod_law l w v) ?_ (by decide) ?_ <;> simp only [hl, hw, h0, h1, Bool.false_eq_true, ↓reduceIte]
          · exact I.cC _ _ (inR_ix hl (n := 6) rfl (by decide)).2 (inR_ix hw (n := 7) rfl (by decide)).2
          · exact INV.mk (I.law (inR_ix hl (n := 6) rfl (by decide)).2 (inR_ix hw (n := 7) rfl (by decide)).2) J rfl
    · refine ST.go (r_Lir_law l w v) (r_Mod_law l w v) ?_ (by decide) ?_ <;> simp only [hl, hw, Bool.false_eq_true, ↓reduceIte]
      exact INV.mk I J rfl
  · refine ST.go (r_Lir_law l w v) (r_Mod_law l w v) ?_ (by decide) ?_ <;> simp only [hl, Bool.false_eq_true, ↓reduceIte]
    exact INV.mk I J rfl
theorem st_right (v : Int32) (hv : v = 0 ∨ v = 1) : ST m_Lir_right m_Mod_right [.int v] := by
  intro hp hI
  obtain ⟨tk, p, pq, x1, x2, x3, x4, x5, x6, bt, ⟨T, C, rc, PF, PS, g, pp, bn, sc⟩, b, rf, nt, s, im, rd, md, tl, n, q, rfl, I', J⟩ := hI
  have I : RR T PF PS C rc g pp bn sc s tl n q := I'
  have h30 := I.n30
  have h10 := I.q10
  have hz : (if v = 0 then (0 : Int32) else 1) = v := by rcases hv with rfl | rfl <;> rfl
  refine ST.go (r_Lir_right v hv) (r_Mod_right v) ?_ (by decide) ?_
  · rw [hz, I.c3]
  · rw [hz, I.c3]
    by_cases h : s 2 = v
    · rw [if_pos h, upd_self h]
      exact INV.mk I J rfl
    · rw [if_neg h]
      exact INV.mk (I.right hv) J rfl
theorem st_growth (w v : Int32) : ST m_Lir_growth m_Mod_growth [.int w, .int v] := by
  intro hp hI
  obtain ⟨tk, p, pq, x1, x2, x3, x4, x5, x6, bt, ⟨T, C, rc, PF, PS, g, pp, bn, sc⟩, b, rf, nt, s, im, rd, md, tl, n, q, rfl, I', J⟩ := hI
  have I : RR T PF PS C rc g pp bn sc s tl n q := I'
  have h30 := I.n30
  have h10 := I.q10
  by_cases hl : inR w 2 = true
  · by_cases h0 : v < 0
    · refine ST.go (r_Lir_growth w v) (r_Mod_growth w v) ?_ (by decide) ?_ <;> simp only [hl, h0, Bool.false_eq_true, ↓reduceIte]
      exact INV.mk I J rfl
    · by_cases h1 : 50 < v
      · refine ST.go (r_Lir_growth w v) (r_Mod_growth w v) ?_ (by decide) ?_ <;> simp only [hl, h0, h1, Bool.false_eq_true, ↓reduceIte]
        exact INV.mk I J rfl
      · refine ST.go (r_Lir_growth w v) (r_Mod_growth w v) ?_ (by decide) ?_ <;> simp only [hl, h0, h1, Bool.false_eq_true, ↓reduceIte]
        · exact I.cg _ (inR_ix hl (n := 2) rfl (by decide)).2
        · exact INV.mk (I.growth (inR_ix hl (n := 2) rfl (by decide)).2 (nt_of (m := 50) rfl (by decide) h0 h1)) J rfl
  · refine ST.go (r_Lir_growth w v) (r_Mod_growth w v) ?_ (by decide) ?_ <;> simp only [hl, Bool.false_eq_true, ↓reduceIte]
    exact INV.mk I J rfl
theorem st_people (r v : Int32) : ST m_Lir_people m_Mod_people [.int r, .int v] := by
  intro hp hI
  obtain ⟨tk, p, pq, x1, x2, x3, x4, x5, x6, bt, ⟨T, C, rc, PF, PS, g, pp, bn, sc⟩, b, rf, nt, s, im, rd, md, tl, n, q, rfl, I', J⟩ := hI
  have I : RR T PF PS C rc g pp bn sc s tl n q := I'
  have h30 := I.n30
  have h10 := I.q10
  by_cases hl : inR r 10 = true
  · by_cases h0 : v < 0
    · refine ST.go (r_Lir_people r v) (r_Mod_people r v) ?_ (by decide) ?_ <;> simp only [hl, h0, Bool.false_eq_true, ↓reduceIte]
      exact INV.mk I J rfl
    · by_cases h1 : 999 < v
      · refine ST.go (r_Lir_people r v) (r_Mod_people r v) ?_ (by decide) ?_ <;> simp only [hl, h0, h1, Bool.false_eq_true, ↓reduceIte]
        exact INV.mk I J rfl
      · refine ST.go (r_Lir_people r v) (r_Mod_people r v) ?_ (by decide) ?_ <;> simp only [hl, h0, h1, Bool.false_eq_true, ↓reduceIte]
        · exact I.cpp _ (inR_ix hl (n := 10) rfl (by decide)).2
        · exact INV.mk (I.people (inR_ix hl (n := 10) rfl (by decide)).2 (nt_of (m := 999) rfl (by decide) h0 h1)) J rfl
  · refine ST.go (r_Lir_people r v) (r_Mod_people r v) ?_ (by decide) ?_ <;> simp only [hl, Bool.false_eq_true, ↓reduceIte]
    exact INV.mk I J rfl
theorem st_reach (l v : Int32) : ST m_Lir_reach m_Mod_reach [.int l, .int v] := by
  intro hp hI
  obtain ⟨tk, p, pq, x1, x2, x3, x4, x5, x6, bt, ⟨T, C, rc, PF, PS, g, pp, bn, sc⟩, b, rf, nt, s, im, rd, md, tl, n, q, rfl, I', J⟩ := hI
  have I : RR T PF PS C rc g pp bn sc s tl n q := I'
  have h30 := I.n30
  have h10 := I.q10
  by_cases hl : inR l 6 = true
  · by_cases h0 : v < 0
    · refine ST.go (r_Lir_reach l v) (r_Mod_reach l v) ?_ (by decide) ?_ <;> simp only [hl, h0, Bool.false_eq_true, ↓reduceIte]
      exact INV.mk I J rfl
    · by_cases h1 : 10 < v
      · refine ST.go (r_Lir_reach l v) (r_Mod_reach l v) ?_ (by decide) ?_ <;> simp only [hl, h0, h1, Bool.false_eq_true, ↓reduceIte]
        exact INV.mk I J rfl
      · refine ST.go (r_Lir_reach l v) (r_Mod_reach l v) ?_ (by decide) ?_ <;> simp only [hl, h0, h1, Bool.false_eq_true, ↓reduceIte]
        · exact I.crc _ (inR_ix hl (n := 6) rfl (by decide)).2
        · exact INV.mk (I.reach (inR_ix hl (n := 6) rfl (by decide)).2 (nt_of (m := 10) rfl (by decide) h0 h1)) J rfl
  · refine ST.go (r_Lir_reach l v) (r_Mod_reach l v) ?_ (by decide) ?_ <;> simp only [hl, Bool.false_eq_true, ↓reduceIte]
    exact INV.mk I J rfl
theorem st_strokes (v : Int32) : ST m_Lir_strokes m_Mod_strokes [.int v] := by
  intro hp hI
  obtain ⟨tk, p, pq, x1, x2, x3, x4, x5, x6, bt, ⟨T, C, rc, PF, PS, g, pp, bn, sc⟩, b, rf, nt, s, im, rd, md, tl, n, q, rfl, I', J⟩ := hI
  have I : RR T PF PS C rc g pp bn sc s tl n q := I'
  have h30 := I.n30
  have h10 := I.q10
  by_cases h0 : v < 0
  · refine ST.go (r_Lir_strokes v) (r_Mod_strokes v) ?_ (by decide) ?_ <;> simp only [h0, Bool.false_eq_true, ↓reduceIte]
    exact INV.mk I J rfl
  · by_cases h1 : 99 < v
    · refine ST.go (r_Lir_strokes v) (r_Mod_strokes v) ?_ (by decide) ?_ <;> simp only [h0, h1, Bool.false_eq_true, ↓reduceIte]
      exact INV.mk I J rfl
    · refine ST.go (r_Lir_strokes v) (r_Mod_strokes v) ?_ (by decide) ?_ <;> simp only [h0, h1, Bool.false_eq_true, ↓reduceIte]
      · exact I.c2
      · exact INV.mk I.strokes J rfl
theorem st_bench (z e c m : Int32) : ST m_Lir_bench m_Mod_bench [.int z, .int e, .int c, .int m] := by
  intro hp hI
  obtain ⟨tk, p, pq, x1, x2, x3, x4, x5, x6, bt, ⟨T, C, rc, PF, PS, g, pp, bn, sc⟩, b, rf, nt, s, im, rd, md, tl, n, q, rfl, I', J⟩ := hI
  have I : RR T PF PS C rc g pp bn sc s tl n q := I'
  have h30 := I.n30
  have h10 := I.q10
  by_cases hc : inR c 8 = true
  · by_cases hm : inR m 256 = true
    · by_cases h0 : z < 0
      · refine ST.go (r_Lir_bench z e c m) (r_Mod_bench z e c m) ?_ (by decide) ?_ <;> simp only [hc, hm, h0, Bool.false_eq_true, ↓reduceIte]
        exact INV.mk I J rfl
      · by_cases h1 : e < 0
        · refine ST.go (r_Lir_bench z e c m) (r_Mod_bench z e c m) ?_ (by decide) ?_ <;> simp only [hc, hm, h0, h1, Bool.false_eq_true, ↓reduceIte]
          exact INV.mk I J rfl
        · by_cases h2 : 999 < z
          · refine ST.go (r_Lir_bench z e c m) (r_Mod_bench z e c m) ?_ (by decide) ?_ <;> simp only [hc, hm, h0, h1, h2, Bool.false_eq_true, ↓reduceIte]
            exact INV.mk I J rfl
          · by_cases h3 : 999 < e
            · refine ST.go (r_Lir_bench z e c m) (r_Mod_bench z e c m) ?_ (by decide) ?_ <;> simp only [hc, hm, h0, h1, h2, h3, Bool.false_eq_true, ↓reduceIte]
              exact INV.mk I J rfl
            · refine ST.go (r_Lir_bench z e c m) (r_Mod_bench z e c m) ?_ (by decide) ?_ <;> simp only [hc, hm, h0, h1, h2, h3, Bool.false_eq_true, ↓reduceIte]
              have hmx := inR_ix hm (n := 256) rfl (by decide)
              exact INV.mk (I.bench (nt_of (m := 999) rfl (by decide) h0 h2) (nt_of (m := 999) rfl (by decide) h1 h3) ⟨_, hmx.1, by omega⟩) J rfl
    · refine ST.go (r_Lir_bench z e c m) (r_Mod_bench z e c m) ?_ (by decide) ?_ <;> simp only [hc, hm, Bool.false_eq_true, ↓reduceIte]
      exact INV.mk I J rfl
  · refine ST.go (r_Lir_bench z e c m) (r_Mod_bench z e c m) ?_ (by decide) ?_ <;> simp only [hc, Bool.false_eq_true, ↓reduceIte]
    exact INV.mk I J rfl
theorem st_put (t w : Int32) : ST m_Lir_put m_Mod_put [.int t, .int w] := by
  intro hp hI
  obtain ⟨tk, p, pq, x1, x2, x3, x4, x5, x6, bt, ⟨T, C, rc, PF, PS, g, pp, bn, sc⟩, b, rf, nt, s, im, rd, md, tl, n, q, rfl, I', J⟩ := hI
  have I : RR T PF PS C rc g pp bn sc s tl n q := I'
  have h30 := I.n30
  have h10 := I.q10
  refine ST.go (r_Lir_put I.cn I.n30 I.tt t w) (r_Mod_put I.hn I.n30 I.rg.nz t w) ?_ (by decide) (INV.mk I J (by rw [I.cs]))
  rw [I.cs]
  by_cases h : inR t (s 0) = true
  · rw [if_pos h, if_pos h]
    by_cases hw : inR w 2 = true
    · rw [if_pos hw, if_pos hw]
      have ht := (inR_ix h I.hn (by omega)).2
      have hw2 := (inR_ix hw (n := 2) rfl (by decide)).2
      obtain ⟨d, h1, h2, e⟩ := I.rg.gy ht hw2
      rw [I.cg _ hw2, rn_eq (I.rg.tz _ ht _ hw2) e h1 h2]
    · rw [if_neg hw, if_neg hw]
  · rw [if_neg h, if_neg h]
theorem st_fits (t l : Int32) : ST m_Lir_fits m_Mod_fits [.int t, .int l] := by
  intro hp hI
  obtain ⟨tk, p, pq, x1, x2, x3, x4, x5, x6, bt, ⟨T, C, rc, PF, PS, g, pp, bn, sc⟩, b, rf, nt, s, im, rd, md, tl, n, q, rfl, I', J⟩ := hI
  have I : RR T PF PS C rc g pp bn sc s tl n q := I'
  have h30 := I.n30
  have h10 := I.q10
  refine ST.go (r_Lir_fits I.cn I.n30 I.tt t l) (r_Mod_fits I.hn I.n30 I.rg.nz t l) ?_ (by decide) (INV.mk I J (by rw [I.cs]))
  rw [I.cs]
  by_cases h : inR t (s 0) = true
  · rw [if_pos h, if_pos h]
    by_cases hl : inR l 6 = true
    · rw [if_pos hl, if_pos hl]
      exact ite_iff (bk_fit I (inR_ix h I.hn (by omega)).2 (inR_ix hl (n := 6) rfl (by decide)).2) rfl rfl
    · rw [if_neg hl, if_neg hl]
  · rw [if_neg h, if_neg h]
theorem st_only (l : Int32) : ST m_Lir_only m_Mod_only [.int l] := by
  intro hp hI
  obtain ⟨tk, p, pq, x1, x2, x3, x4, x5, x6, bt, ⟨T, C, rc, PF, PS, g, pp, bn, sc⟩, b, rf, nt, s, im, rd, md, tl, n, q, rfl, I', J⟩ := hI
  have I : RR T PF PS C rc g pp bn sc s tl n q := I'
  have h30 := I.n30
  have h10 := I.q10
  refine ST.go (r_Lir_only I.cn I.n30 I.tt l) (r_Mod_only I.hn I.n30 I.rg.nz l) ?_ (by decide) (INV.mk I J rfl)
  by_cases hl : inR l 6 = true
  · have hl6 := (inR_ix hl (n := 6) rfl (by decide)).2
    rw [if_pos hl, if_pos hl]
    exact only_eq I hl
  · rw [if_neg hl, if_neg hl]
theorem st_pictures (l : Int32) : ST m_Lir_pictures m_Mod_pictures [.int l] := by
  intro hp hI
  obtain ⟨tk, p, pq, x1, x2, x3, x4, x5, x6, bt, ⟨T, C, rc, PF, PS, g, pp, bn, sc⟩, b, rf, nt, s, im, rd, md, tl, n, q, rfl, I', J⟩ := hI
  have I : RR T PF PS C rc g pp bn sc s tl n q := I'
  have h30 := I.n30
  have h10 := I.q10
  refine ST.go (r_Lir_pictures I.cn I.n30 I.tt l) (r_Mod_pictures I.hn I.n30 I.rg.nz l) ?_ (by decide) (INV.mk I J rfl)
  by_cases hl : inR l 6 = true
  · have hl6 := (inR_ix hl (n := 6) rfl (by decide)).2
    rw [if_pos hl, if_pos hl]
    exact pict_eq I hl
  · rw [if_neg hl, if_neg hl]
theorem st_seen (l : Int32) : ST m_Lir_seen m_Mod_seen [.int l] := by
  intro hp hI
  obtain ⟨tk, p, pq, x1, x2, x3, x4, x5, x6, bt, ⟨T, C, rc, PF, PS, g, pp, bn, sc⟩, b, rf, nt, s, im, rd, md, tl, n, q, rfl, I', J⟩ := hI
  have I : RR T PF PS C rc g pp bn sc s tl n q := I'
  have h30 := I.n30
  have h10 := I.q10
  refine ST.go (r_Lir_seen I.cn I.n30 I.tt l) (r_Mod_seen I.hn I.n30 I.rg.nz l) ?_ (by decide) (INV.mk I J rfl)
  by_cases hl : inR l 6 = true
  · have hl6 := (inR_ix hl (n := 6) rfl (by decide)).2
    rw [if_pos hl, if_pos hl]
    exact seen_eq I hl6
  · rw [if_neg hl, if_neg hl]
theorem st_should (l : Int32) : ST m_Lir_should m_Mod_should [.int l] := by
  intro hp hI
  obtain ⟨tk, p, pq, x1, x2, x3, x4, x5, x6, bt, ⟨T, C, rc, PF, PS, g, pp, bn, sc⟩, b, rf, nt, s, im, rd, md, tl, n, q, rfl, I', J⟩ := hI
  have I : RR T PF PS C rc g pp bn sc s tl n q := I'
  have h30 := I.n30
  have h10 := I.q10
  refine ST.go (r_Lir_should (rgc I) l) (r_Mod_should I.rg.rgs l) ?_ (by decide) (INV.mk I J rfl)
  by_cases hl : inR l 6 = true
  · have hl6 := (inR_ix hl (n := 6) rfl (by decide)).2
    rw [if_pos hl, if_pos hl]
    exact shown_eq I hl6
  · rw [if_neg hl, if_neg hl]
theorem st_beyond (l m : Int32) : ST m_Lir_beyond m_Mod_beyond [.int l, .int m] := by
  intro hp hI
  obtain ⟨tk, p, pq, x1, x2, x3, x4, x5, x6, bt, ⟨T, C, rc, PF, PS, g, pp, bn, sc⟩, b, rf, nt, s, im, rd, md, tl, n, q, rfl, I', J⟩ := hI
  have I : RR T PF PS C rc g pp bn sc s tl n q := I'
  have h30 := I.n30
  have h10 := I.q10
  refine ST.go (r_Lir_beyond I.cn I.n30 I.tt (rgc I) l m) (r_Mod_beyond I.hn I.n30 I.rg.nz I.rg.rgs l m) ?_ (by decide) (INV.mk I J rfl)
  by_cases hl : inR l 6 = true
  · have hl6 := (inR_ix hl (n := 6) rfl (by decide)).2
    rw [if_pos hl, if_pos hl]
    rw [seen_eq I hl6, shown_eq I hl6]
  · rw [if_neg hl, if_neg hl]
theorem st_lines (t : Int32) : ST m_Lir_lines m_Mod_lines [.int t] := by
  intro hp hI
  obtain ⟨tk, p, pq, x1, x2, x3, x4, x5, x6, bt, ⟨T, C, rc, PF, PS, g, pp, bn, sc⟩, b, rf, nt, s, im, rd, md, tl, n, q, rfl, I', J⟩ := hI
  have I : RR T PF PS C rc g pp bn sc s tl n q := I'
  have h30 := I.n30
  have h10 := I.q10
  refine ST.go (r_Lir_lines I.cn I.n30 I.tt t) (r_Mod_lines I.hn I.n30 t) ?_ (by decide) (INV.mk I J (by rw [I.cs]))
  rw [I.cs]
  by_cases h : inR t (s 0) = true
  · have ht := (inR_ix h I.hn (by omega)).2
    rw [if_pos h, if_pos h]
    exact lines_eq I ht
  · rw [if_neg h, if_neg h]
theorem st_misses (t : Int32) : ST m_Lir_misses m_Mod_misses [.int t] := by
  intro hp hI
  obtain ⟨tk, p, pq, x1, x2, x3, x4, x5, x6, bt, ⟨T, C, rc, PF, PS, g, pp, bn, sc⟩, b, rf, nt, s, im, rd, md, tl, n, q, rfl, I', J⟩ := hI
  have I : RR T PF PS C rc g pp bn sc s tl n q := I'
  have h30 := I.n30
  have h10 := I.q10
  refine ST.go (r_Lir_misses I.cn I.n30 I.tt t) (r_Mod_misses I.hn I.n30 t) ?_ (by decide) (INV.mk I J (by rw [I.cs]))
  rw [I.cs]
  by_cases h : inR t (s 0) = true
  · have ht := (inR_ix h I.hn (by omega)).2
    rw [if_pos h, if_pos h]
    exact misses_eq I ht
  · rw [if_neg h, if_neg h]
theorem st_barred (c : Int32) : ST m_Lir_barred m_Mod_barred [.int c] := by
  intro hp hI
  obtain ⟨tk, p, pq, x1, x2, x3, x4, x5, x6, bt, ⟨T, C, rc, PF, PS, g, pp, bn, sc⟩, b, rf, nt, s, im, rd, md, tl, n, q, rfl, I', J⟩ := hI
  have I : RR T PF PS C rc g pp bn sc s tl n q := I'
  have h30 := I.n30
  have h10 := I.q10
  refine ST.go (r_Lir_barred c) (r_Mod_barred c) (by rw [br_eq I c 6 (Nat.le_refl _)]) (by decide) (INV.mk I J rfl)
theorem st_leads  : ST m_Lir_leads m_Mod_leads [] := by
  intro hp hI
  obtain ⟨tk, p, pq, x1, x2, x3, x4, x5, x6, bt, ⟨T, C, rc, PF, PS, g, pp, bn, sc⟩, b, rf, nt, s, im, rd, md, tl, n, q, rfl, I', J⟩ := hI
  have I : RR T PF PS C rc g pp bn sc s tl n q := I'
  have h30 := I.n30
  have h10 := I.q10
  exact ST.go (r_Lir_leads I.cn I.n30 I.tt) (r_Mod_leads I.hn I.n30 I.rg.nz) (leads_eq I) (by decide) (INV.mk I J rfl)
