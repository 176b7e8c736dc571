/-! WHAT IS READ FROM THE TAPE IS SMALL -/
theorem dg_nat2 {mt : Nat → Int32} {p q : Nat} (h : dg mt p q = true) : ∃ c, 48 ≤ c ∧ c ≤ 57 ∧ sg mt p q = nI c := by
  unfold dg at h
  rw [Bool.and_eq_true, decide_eq_true_eq, decide_eq_true_eq] at h
  obtain ⟨h1, h2⟩ := h
  have a1 := Int32.le_iff_toInt_le.mp h1
  have a2 := Int32.le_iff_toInt_le.mp h2
  rw [show (48 : Int32).toInt = 48 from rfl] at a1
  rw [show (57 : Int32).toInt = 57 from rfl] at a2
  obtain ⟨j, hj, e⟩ := nI_of (x := sg mt p q) (fun z => by
    have := Int32.lt_iff_toInt_lt.mp z
    rw [show (0 : Int32).toInt = 0 from rfl] at this
    omega)
  rw [e, nI_toInt hj] at a1 a2
  exact ⟨j, by omega, by omega, e⟩
theorem rnm_nat2 {mt : Nat → Int32} {p : Nat} : ∀ (f q A : Nat), ∃ B, (rnm mt p f q (nI A)).2 = nI B ∧ B + 1 ≤ (A + 1) * 10 ^ f
  | 0, q, A => ⟨A, rfl, by simp⟩
  | f + 1, q, A => by
    simp only [rnm]
    by_cases h : dg mt p q = true
    · rw [if_pos h]
      obtain ⟨c, h1, h2, e⟩ := dg_nat2 h
      rw [e, show (10 : Int32) = nI 10 from rfl, pk_mul, nI_add, show (48 : Int32) = nI 48 from rfl, pk_sub (by omega)]
      obtain ⟨B, e2, hB⟩ := rnm_nat2 (mt := mt) (p := p) f (q + 1) (10 * A + c - 48)
      refine ⟨B, e2, Nat.le_trans hB ?_⟩
      rw [Nat.pow_succ, Nat.mul_comm (10 ^ f) 10, ← Nat.mul_assoc]
      exact Nat.mul_le_mul_right _ (by omega)
    · rw [if_neg h]
      refine ⟨A, rfl, ?_⟩
      have : 0 < 10 ^ (f + 1) := Nat.pow_pos (by decide)
      exact Nat.le_mul_of_pos_right _ this
theorem rnm_NT {mt : Nat → Int32} {p q f m : Nat} (hm : 10 ^ f = m + 1) : NT m (rnm mt p f q 0).2 := by
  obtain ⟨B, e, hB⟩ := rnm_nat2 (mt := mt) (p := p) f q 0
  rw [hm] at hB
  exact ⟨B, e, by omega⟩
theorem or_bit8 : ∀ x, x < 256 → ∀ i, i < 8 → (x ||| 2 ^ i) < 256 ∧ nI x ||| 1 <<< (nI i &&& 31) = nI (x ||| 2 ^ i) := by decide +kernel
theorem mkO_nat (c : Int32) : mkO c = -9 ∨ ∃ i, i < 8 ∧ mkO c = nI i := by
  unfold mkO
  repeat (first | (split; · exact Or.inr ⟨_, by decide, rfl⟩) | exact Or.inl rfl)
theorem up_0 {rd : Nat → Int32} {v : Int32} (h : GD rd) (hv : GP 999 v) : GD (upd rd 0 v) := ⟨hv, h.2⟩
theorem up_1 {rd : Nat → Int32} {v : Int32} (h : GD rd) (hv : GP 999 v) : GD (upd rd 1 v) := ⟨h.1, hv, h.2.2⟩
theorem up_2 {rd : Nat → Int32} {v : Int32} (h : GD rd) (hv : GP 7 v) : GD (upd rd 2 v) := ⟨h.1, h.2.1, hv, h.2.2.2⟩
theorem up_3 {rd : Nat → Int32} {v : Int32} (h : GD rd) (hv : NT 255 v) : GD (upd rd 3 v) := ⟨h.1, h.2.1, h.2.2.1, hv, h.2.2.2.2⟩
theorem up_4 {rd : Nat → Int32} {v : Int32} (h : GD rd) (hv : NT 99 v) : GD (upd rd 4 v) := ⟨h.1, h.2.1, h.2.2.1, h.2.2.2.1, hv, h.2.2.2.2.2⟩
theorem up_5 {rd : Nat → Int32} {v : Int32} (h : GD rd) (hv : v = 0 ∨ v = 1) : GD (upd rd 5 v) := ⟨h.1, h.2.1, h.2.2.1, h.2.2.2.1, h.2.2.2.2.1, hv⟩
section
variable {mt : Nat → Int32} {p : Nat}
theorem f5_gd {q : Nat} {rd : Nat → Int32} (h : GD rd) : GD (f5 mt p q rd).2.2 := by
  unfold f5
  split
  · split
    · split
      · exact up_5 (up_4 h (rnm_NT rfl)) (Or.inr rfl)
      · exact up_5 (up_4 h (rnm_NT rfl)) (Or.inl rfl)
    · exact h
  · exact h
theorem f4_gd : ∀ (f q : Nat) (la : Int32) (rd : Nat → Int32), -1 ≤ la → GD rd → GD (f4 mt p f la q rd).2.2
  | 0, q, la, rd, _, h => f5_gd h
  | f + 1, q, la, rd, hla, h => by
    simp only [f4]
    split
    · exact f5_gd h
    · rename_i hle
      rcases mkO_nat (sg mt p q) with e | ⟨i, hi, e⟩
      · rw [e] at hle
        exact absurd (Int32.le_trans (by decide) hla) hle
      · refine f4_gd f (q + 1) _ _ ?_ (up_3 h ?_)
        · rw [e]; exact Int32.le_trans (by decide) (nI_pos' (n := i) (by omega))
        · obtain ⟨x, ex, hx⟩ := h.2.2.2.1
          rw [e, ex]
          have := or_bit8 x (by omega) i hi
          exact ⟨_, this.2, by omega⟩
theorem f3_gd {q : Nat} {rd : Nat → Int32} (h : GD rd) : GD (f3 mt p q rd).2.2 := by
  unfold f3
  split
  · split
    · rename_i h48
      split
      · rename_i h55
        refine f4_gd 9 _ _ _ (by decide) (up_2 h (Or.inr ?_))
        have a1 := Int32.le_iff_toInt_le.mp h48
        have a2 := Int32.le_iff_toInt_le.mp h55
        rw [show (48 : Int32).toInt = 48 from rfl] at a1
        rw [show (55 : Int32).toInt = 55 from rfl] at a2
        obtain ⟨j, hj, e⟩ := nI_of (x := sg mt p (q + 1)) (fun z => by
          have := Int32.lt_iff_toInt_lt.mp z
          rw [show (0 : Int32).toInt = 0 from rfl] at this
          omega)
        rw [e, nI_toInt hj] at a1 a2
        rw [e, show (48 : Int32) = nI 48 from rfl, pk_sub (by omega)]
        exact ⟨j - 48, rfl, by omega⟩
      · exact h
    · exact h
  · exact f4_gd 9 _ _ _ (by decide) h
theorem f2_gd {q : Nat} {rd : Nat → Int32} (h : GD rd) : GD (f2 mt p q rd).2.2 := by
  unfold f2
  split
  · split
    · exact f3_gd (up_1 h (Or.inr (rnm_NT rfl)))
    · exact h
  · exact f3_gd h
theorem f1_gd {q : Nat} {rd : Nat → Int32} (h : GD rd) : GD (f1 mt p q rd).2.2 := by
  unfold f1
  split
  · split
    · exact f2_gd (up_0 h (Or.inr (rnm_NT rfl)))
    · exact h
  · exact f2_gd h
theorem rd0_gd {rd : Nat → Int32} : GD (rd0 rd) := ⟨Or.inl rfl, Or.inl rfl, Or.inl rfl, ⟨0, rfl, by decide⟩, ⟨0, rfl, by decide⟩, Or.inl rfl⟩
end
theorem byM_n1 (b : Int64) (k : Nat) : ¬ byM b k = -1 := by
  unfold byM
  intro h
  have h2 := congrArg Int32.toBitVec h
  rw [Int64.toBitVec_toInt32, Int64.toBitVec_and] at h2
  have h3 := congrArg (fun x : BitVec 32 => x[31]) h2
  simp at h3
theorem BTS.fd {bt : Nat → Int32} {p k : Nat} {b : Int64} (h : BTS bt p) : BTS (fdT bt p b k) (p + k) := fun j hj => by
  unfold fdT
  by_cases h1 : p ≤ j ∧ j < p + k
  · rw [if_pos h1]; exact byM_n1 b _
  · rw [if_neg h1]; exact h j (by omega)
