/-! SEARCHES: cover, half, sorts -/
theorem pop8 : ∀ x, x < 256 → pop 8 x ≤ 8 := by decide +kernel
theorem bc_lt {x y : Nat} (hx : x < 256) (hy : y < 256) : bcI (nI x) < bcI (nI y) ↔ pop 8 x < pop 8 y := by
  rw [bc8 x hx, bc8 y hy]
  have h1 := pop8 x hx
  have h2 := pop8 y hy
  exact nI_ltI (by omega) (by omega)
theorem mnC_lt (Q : Int32 → Bool) {a : Nat} (ha : a < 256) : ∀ i, i ≤ 256 → mnC Q a i < 256
  | 0, _ => ha
  | i + 1, h => by
    simp only [mnC]
    have := mnC_lt Q ha i (by omega)
    split
    · split
      · omega
      · exact this
    · exact this
theorem mnC_spec (Q : Int32 → Bool) {a : Nat} (ha : a < 256) : ∀ i, i ≤ 256 → (mnC Q a i = a ∧ ∀ x, x < i → Q (nI x) = true → pop 8 a ≤ pop 8 x) ∨ (mnC Q a i < i ∧ Q (nI (mnC Q a i)) = true ∧ pop 8 (mnC Q a i) < pop 8 a ∧ ∀ x, x < i → Q (nI x) = true → pop 8 (mnC Q a i) ≤ pop 8 x ∧ (x < mnC Q a i → pop 8 (mnC Q a i) < pop 8 x))
  | 0, _ => Or.inl ⟨rfl, fun x h => absurd h (Nat.not_lt_zero x)⟩
  | i + 1, h => by
    have ih := mnC_spec Q ha i (by omega)
    have hlt := mnC_lt Q ha i (by omega)
    by_cases hb : bcI (nI i) < bcI (nI (mnC Q a i))
    · have hp := (bc_lt (by omega) hlt).mp hb
      by_cases hq : Q (nI i) = true
      · have e : mnC Q a (i + 1) = i := by simp only [mnC]; rw [if_pos hb, if_pos hq]
        rw [e]
        refine Or.inr ⟨by omega, hq, ?_, fun x hx hqx => ?_⟩
        · rcases ih with ⟨e1, -⟩ | ⟨-, -, h3, -⟩
          · rw [e1] at hp; exact hp
          · omega
        · by_cases hxi : x = i
          · subst hxi; exact ⟨Nat.le_refl _, fun h => absurd h (Nat.lt_irrefl _)⟩
          · rcases ih with ⟨e1, h2⟩ | ⟨-, -, h3, h4⟩
            · have := h2 x (by omega) hqx
              rw [e1] at hp
              exact ⟨by omega, fun _ => by omega⟩
            · have := (h4 x (by omega) hqx).1
              exact ⟨by omega, fun _ => by omega⟩
      · have e : mnC Q a (i + 1) = mnC Q a i := by simp only [mnC]; rw [if_pos hb, if_neg hq]
        rw [e]
        rcases ih with ⟨e1, h2⟩ | ⟨h1, h2, h3, h4⟩
        · refine Or.inl ⟨e1, fun x hx hqx => ?_⟩
          by_cases hxi : x = i
          · subst hxi; exact absurd hqx hq
          · exact h2 x (by omega) hqx
        · refine Or.inr ⟨by omega, h2, h3, fun x hx hqx => ?_⟩
          by_cases hxi : x = i
          · subst hxi; exact absurd hqx hq
          · exact h4 x (by omega) hqx
    · have hp : ¬ pop 8 i < pop 8 (mnC Q a i) := fun q => hb ((bc_lt (by omega) hlt).mpr q)
      have e : mnC Q a (i + 1) = mnC Q a i := by simp only [mnC]; rw [if_neg hb]
      rw [e]
      rcases ih with ⟨e1, h2⟩ | ⟨h1, h2, h3, h4⟩
      · refine Or.inl ⟨e1, fun x hx hqx => ?_⟩
        by_cases hxi : x = i
        · subst hxi; rw [e1] at hp; omega
        · exact h2 x (by omega) hqx
      · refine Or.inr ⟨by omega, h2, h3, fun x hx hqx => ?_⟩
        by_cases hxi : x = i
        · subst hxi; exact ⟨by omega, fun _ => by omega⟩
        · exact h4 x (by omega) hqx
theorem cp_in {f g : Nat → Int32} {k j : Nat} (h : j < k) : cp f g k j = f j := if_pos h
section
variable {T PF PS : Nat → Option Nat} {C : Nat → Nat → Int32} {rc g pp bn sc s nt : Nat → Int32} {tl : List zC} {n q : Nat}
theorem nt_lw (I : RR T PF PS C rc g pp bn sc s tl n q) {t : Nat} (ht : t < n) : cp (lf C g (sc 3) s) nt n t = lwTo s t 6 := by
  rw [cp_in ht]; exact lf_eq I ht
theorem cov_eq (I : RR T PF PS C rc g pp bn sc s tl n q) (x : Int32) : cvA (cp (lf C g (sc 3) s) nt n) n x = covV s n x := by
  have : cvA (cp (lf C g (sc 3) s) nt n) n x = true ↔ covV s n x = true := by
    rw [cvA_iff, covV_iff]
    exact ⟨fun h t ht => by rw [← nt_lw (nt := nt) I ht]; exact h t ht, fun h t ht => by rw [nt_lw (nt := nt) I ht]; exact h t ht⟩
  cases h1 : cvA (cp (lf C g (sc 3) s) nt n) n x <;> cases h2 : covV s n x <;> simp [h1, h2] at this ⊢
theorem cover_eq (I : RR T PF PS C rc g pp bn sc s tl n q) : isCov (cvQ s n) (mnC (cvA (cp (lf C g (sc 3) s) nt n) n) 63 64) := by
  have p63 : pop 8 63 = 6 := by decide
  rcases mnC_spec (cvA (cp (lf C g (sc 3) s) nt n) n) (show 63 < 256 by decide) 64 (by decide) with ⟨e1, h2⟩ | ⟨h1, h2, h3, h4⟩
  · refine Or.inr ⟨e1, fun m hm x hx hq => ?_⟩
    have := h2 x hx (by rw [cov_eq I]; exact hq.2)
    rw [hq.1] at this
    omega
  · refine Or.inl ⟨pop 8 (mnC (cvA (cp (lf C g (sc 3) s) nt n) n) 63 64), by omega, h1, ⟨rfl, by rw [← cov_eq (nt := nt) I]; exact h2⟩, fun m hm x hx hq => ?_, fun x hx hq => ?_⟩
    · have := (h4 x hx (by rw [cov_eq I]; exact hq.2)).1
      rw [hq.1] at this
      omega
    · have := (h4 x (by omega) (by rw [cov_eq I]; exact hq.2)).2 hx
      rw [hq.1] at this
      omega
theorem half_eq (I : RR T PF PS C rc g pp bn sc s tl n q) {l : Nat} (hl : l < 6) : ∀ i, i ≤ 128 → mnC (hfA (cp (fun t => bk C g (sc 3) s t l) nt n) n (sc 0)) 127 i = hfN s n l i
  | 0, _ => rfl
  | i + 1, h => by
    have ih := half_eq I hl i (by omega)
    have hlt := mnC_lt (hfA (cp (fun t => bk C g (sc 3) s t l) nt n) n (sc 0)) (show 127 < 256 by decide) i (by omega)
    have e : sm (fun t => if cp (fun t => bk C g (sc 3) s t l) nt n t &&& (nI i ^^^ -1) = 0 then 1 else 0) n = fcV s n l (nI i) := by
      unfold fcV
      refine sm_congr (fun t ht => ?_)
      rw [cp_in ht]
      exact ite_iff (bk_set I ht hl (by omega)) rfl rfl
    have eQ : hfA (cp (fun t => bk C g (sc 3) s t l) nt n) n (sc 0) (nI i) = decide (s 0 ≤ 2 * fcV s n l (nI i)) := by
      unfold hfA
      rw [e, I.cn, I.hn]
    simp only [mnC, hfN]
    rw [eQ, ← ih]
    by_cases h1 : s 0 ≤ 2 * fcV s n l (nI i) <;> by_cases h2 : pop 8 i < pop 8 (mnC (hfA (cp (fun t => bk C g (sc 3) s t l) nt n) n (sc 0)) 127 i)
    · rw [if_pos ((bc_lt (by omega) hlt).mpr h2), if_pos (decide_eq_true h1), if_pos ⟨h1, h2⟩]
    · rw [if_neg (fun z => h2 ((bc_lt (by omega) hlt).mp z)), if_neg (fun z => h2 z.2)]
    · rw [if_pos ((bc_lt (by omega) hlt).mpr h2), if_neg (by simp [h1]), if_neg (fun z => h1 z.1)]
    · rw [if_neg (fun z => h2 ((bc_lt (by omega) hlt).mp z)), if_neg (fun z => h2 z.2)]
theorem alike_eq (I : RR T PF PS C rc g pp bn sc s tl n q) {a : Nat} (ha : a < n) : fnd n (fun e => decide ((cp (lf C g (sc 3) s) nt n) e = (cp (lf C g (sc 3) s) nt n) a)) = fnd n (fun e => decide (lwTo s e 6 = lwTo s a 6)) :=
  fnd_congr (fun k hk => by rw [nt_lw I hk, nt_lw I ha])
end
theorem or_bit : ∀ x, x < 64 → ∀ i, i < 6 → ∃ y, y < 64 ∧ nI x ||| 1 <<< (nI i &&& 31) = nI y := by
  have key : ∀ x, x < 64 → ∀ i, i < 6 → (x ||| 2 ^ i) < 64 ∧ nI x ||| 1 <<< (nI i &&& 31) = nI (x ||| 2 ^ i) := by decide +kernel
  exact fun x hx i hi => ⟨_, key x hx i hi⟩
theorem lw_nat (s : Nat → Int32) (t : Nat) : ∀ i, i ≤ 6 → ∃ x, x < 64 ∧ lwTo s t i = nI x
  | 0, _ => ⟨0, by decide, rfl⟩
  | i + 1, h => by
    obtain ⟨x, hx, e⟩ := lw_nat s t i (by omega)
    simp only [lwTo]
    rw [e]
    by_cases hf : fit s t i 0 = true
    · rw [if_pos hf]
      exact or_bit x hx i (by omega)
    · rw [if_neg hf, Int32.or_zero]
      exact ⟨x, hx, rfl⟩
/-- the laws of a Telling as a number -/
def lwN (s : Nat → Int32) (t : Nat) : Nat := ix (lwTo s t 6)
theorem lwN_eq (s : Nat → Int32) (t : Nat) : lwTo s t 6 = nI (lwN s t) ∧ lwN s t < 64 := by
  obtain ⟨x, hx, e⟩ := lw_nat s t 6 (Nat.le_refl _)
  have : lwN s t = x := by unfold lwN; rw [e]; exact nI_clamp (by omega)
  rw [this]; exact ⟨e, hx⟩
theorem smN_one {e v : Nat} : ∀ r, smN (fun q => if q = e then v else 0) r = if e < r then v else 0
  | 0 => by simp [smN]
  | r + 1 => by
    simp only [smN]
    rw [smN_one r]
    by_cases h1 : e < r
    · rw [if_pos h1, if_neg (by omega), if_pos (by omega)]; rfl
    · rw [if_neg h1]
      by_cases h2 : r = e
      · rw [if_pos h2, if_pos (by omega)]; omega
      · rw [if_neg h2, if_neg (by omega)]
/-- how many of the first n have the number x -/
def ctN (f : Nat → Nat) (n x : Nat) : Nat := smN (fun t => if f t = x then 1 else 0) n
theorem ctN_le (f : Nat → Nat) (n x : Nat) : ctN f n x ≤ n := by
  have := smN_le (F := fun t => if f t = x then 1 else 0) (m := 1) (n := n) (fun i _ => by by_cases h : f i = x <;> simp [h])
  unfold ctN
  omega
theorem ctN_pos (f : Nat → Nat) (x : Nat) : ∀ n, 0 < ctN f n x ↔ ∃ j, j < n ∧ f j = x
  | 0 => by simp [ctN, smN]
  | n + 1 => by
    have ih := ctN_pos f x n
    have e : ctN f (n + 1) x = ctN f n x + if f n = x then 1 else 0 := rfl
    rw [e]
    constructor
    · intro h
      by_cases hx : f n = x
      · exact ⟨n, by omega, hx⟩
      · rw [if_neg hx] at h
        obtain ⟨j, h1, h2⟩ := ih.mp (by omega)
        exact ⟨j, by omega, h2⟩
    · rintro ⟨j, h1, h2⟩
      by_cases hj : j = n
      · subst hj; rw [if_pos h2]; omega
      · have := ih.mpr ⟨j, by omega, h2⟩
        omega
theorem dist_eq (f : Nat → Nat) (hf : ∀ t, f t < 64) : ∀ i, smN (fun x => if 0 < ctN f i x then 1 else 0) 64 = smN (fun j => if 0 < ctN f j (f j) then 0 else 1) i
  | 0 => by
    have : smN (fun x => if 0 < ctN f 0 x then 1 else 0) 64 ≤ 64 * 0 := smN_le (fun x _ => by simp [ctN, smN])
    simp only [smN] at this ⊢
    omega
  | i + 1 => by
    have ih := dist_eq f hf i
    have e : smN (fun x => if 0 < ctN f (i + 1) x then 1 else 0) 64 = smN (fun x => (if 0 < ctN f i x then 1 else 0) + (if x = f i then (if 0 < ctN f i (f i) then 0 else 1) else 0)) 64 := by
      refine smN_congr (fun x _ => ?_)
      have e1 : ctN f (i + 1) x = ctN f i x + if f i = x then 1 else 0 := rfl
      rw [e1]
      by_cases hx : x = f i
      · subst hx
        rw [if_pos rfl, if_pos rfl]
        by_cases h0 : 0 < ctN f i (f i)
        · rw [if_pos (by omega), if_pos h0, if_pos h0]
        · rw [if_pos (by omega), if_neg h0, if_neg h0]
      · rw [if_neg (show ¬ f i = x from fun h => hx h.symm), if_neg hx]
        rfl
    rw [e, smN_add, ih, smN_one, if_pos (hf i)]
    rfl
theorem fnd_first {n i : Nat} {p : Nat → Bool} (hi : i < n) (hn : n < 2 ^ 31) (hp : p i = true) : fnd n p = nI i ↔ ∀ j, j < i → p j = false := by
  constructor
  · intro h
    obtain ⟨k, hk, hlow⟩ := pk_least (fun k => p k = true) ⟨i, hp⟩
    have hki : k ≤ i := by
      by_cases h2 : k ≤ i
      · exact h2
      · exact absurd hp (hlow i (by omega))
    have : fnd n p = nI k := fnd_some (by omega) hk (fun j hj => by
      cases hpj : p j with
      | false => rfl
      | true => exact absurd hpj (hlow j hj))
    rw [this] at h
    have hki2 := (nI_eq (by omega) (by omega)).mp h
    subst hki2
    intro j hj
    cases hpj : p j with
    | false => rfl
    | true => exact absurd hpj (hlow j hj)
  · intro h
    exact fnd_some hi hp h
section
variable {nt : Nat → Int32} {n : Nat} {f : Nat → Nat}
theorem ct_sm (hf : ∀ t, t < n → nt t = nI (f t)) (hb : ∀ t, f t < 64) {x : Nat} (hx : x < 64) : sm (fun e => if nt e = nI x then 1 else 0) n = nI (ctN f n x) := by
  refine sm_nat (fun t ht => ?_)
  rw [ind_nat]
  congr 1
  have := hb t
  exact ite_iff (by rw [hf t ht]; exact nI_eq (by omega) (by omega)) rfl rfl
/-- the greatest so far -/
def mxN (f : Nat → Nat) (n : Nat) : Nat → Nat
  | 0 => 0
  | i + 1 => if 0 < ctN f i (f i) then mxN f n i else if mxN f n i < ctN f n (f i) then ctN f n (f i) else mxN f n i
theorem mxN_le {f : Nat → Nat} {n : Nat} : ∀ i, mxN f n i ≤ n
  | 0 => Nat.zero_le _
  | i + 1 => by
    simp only [mxN]
    have := mxN_le (f := f) (n := n) i
    have := ctN_le f n (f i)
    split
    · assumption
    · split <;> assumption
theorem srC_eq (hf : ∀ t, t < n → nt t = nI (f t)) (hb : ∀ t, f t < 64) (hn : n ≤ 30) : ∀ i, i ≤ n → srC nt n i = (nI (smN (fun j => if 0 < ctN f j (f j) then 0 else 1) i), nI (mxN f n i))
  | 0, _ => rfl
  | i + 1, h => by
    have ih := srC_eq hf hb hn i (by omega)
    have key : fnd n (fun e => decide (nt e = nt i)) = nI i ↔ ¬ 0 < ctN f i (f i) := by
      rw [fnd_first (show i < n by omega) (by omega) (by simp), ctN_pos]
      constructor
      · rintro h1 ⟨j, hj, e⟩
        have := h1 j hj
        rw [hf j (by omega), hf i (by omega), e] at this
        simp at this
      · intro h1 j hj
        refine decide_eq_false (fun e => h1 ⟨j, hj, ?_⟩)
        rw [hf j (by omega), hf i (by omega)] at e
        have := hb i
        have := hb j
        exact (nI_eq (by omega) (by omega)).mp e
    have ec : sm (fun e => if nt e = nt i then 1 else 0) n = nI (ctN f n (f i)) := by
      rw [hf i (by omega)]
      exact ct_sm hf hb (hb i)
    simp only [srC, smN, mxN]
    rw [ih]
    by_cases h0 : 0 < ctN f i (f i)
    · rw [if_neg (fun z => key.mp z h0), if_pos h0, if_pos h0]
      rfl
    · rw [if_pos (key.mpr h0), if_neg h0, if_neg h0, ec]
      have h1 := mxN_le (f := f) (n := n) i
      have h2 := ctN_le f n (f i)
      show (nI _ + 1, if nI (mxN f n i) < nI (ctN f n (f i)) then nI (ctN f n (f i)) else nI (mxN f n i)) = _
      rw [nI_1]
      congr 1
      by_cases h3 : mxN f n i < ctN f n (f i)
      · rw [if_pos (nI_lt h3 (by omega)), if_pos h3]
      · rw [if_neg (nI_nlt (by omega) (by omega)), if_neg h3]
theorem mxN_ge {f : Nat → Nat} {n : Nat} (hn : n ≤ 30) : ∀ i, i ≤ n → ∀ j, j < i → ctN f n (f j) ≤ mxN f n i
  | 0, _, j, hj => absurd hj (Nat.not_lt_zero j)
  | i + 1, h, j, hj => by
    have ih := mxN_ge (f := f) hn i (by omega)
    have low : mxN f n i ≤ mxN f n (i + 1) := by
      simp only [mxN]
      split
      · exact Nat.le_refl _
      · split <;> omega
    by_cases hji : j = i
    · subst hji
      by_cases h0 : 0 < ctN f j (f j)
      · obtain ⟨k, hk, e⟩ := (ctN_pos f (f j) j).mp h0
        have := ih k hk
        rw [e] at this
        omega
      · simp only [mxN]
        rw [if_neg h0]
        split <;> omega
    · have := ih j (by omega)
      omega
theorem mxN_is {f : Nat → Nat} {n : Nat} : ∀ i, mxN f n i = 0 ∨ ∃ j, j < i ∧ mxN f n i = ctN f n (f j)
  | 0 => Or.inl rfl
  | i + 1 => by
    have ih := mxN_is (f := f) (n := n) i
    have up : (mxN f n i = 0 ∨ ∃ j, j < i + 1 ∧ mxN f n i = ctN f n (f j)) := by
      rcases ih with h | ⟨j, h1, h2⟩
      · exact Or.inl h
      · exact Or.inr ⟨j, by omega, h2⟩
    simp only [mxN]
    split
    · exact up
    · split
      · exact Or.inr ⟨i, by omega, rfl⟩
      · exact up
end
/-- the reference's greatest, as a number -/
def mqN (f : Nat → Nat) (n : Nat) : Nat → Nat
  | 0 => 0
  | x + 1 => if ctN f n x ≤ mqN f n x then mqN f n x else ctN f n x
theorem mqN_le {f : Nat → Nat} {n : Nat} : ∀ x, mqN f n x ≤ n
  | 0 => Nat.zero_le _
  | x + 1 => by
    simp only [mqN]
    have := mqN_le (f := f) (n := n) x
    have := ctN_le f n x
    split <;> assumption
theorem mqN_ge {f : Nat → Nat} {n : Nat} : ∀ N x, x < N → ctN f n x ≤ mqN f n N
  | 0, x, h => absurd h (Nat.not_lt_zero x)
  | N + 1, x, h => by
    have ih := mqN_ge (f := f) (n := n) N
    simp only [mqN]
    by_cases hx : x = N
    · subst hx; split <;> omega
    · have := ih x (by omega)
      split <;> omega
theorem mqN_is {f : Nat → Nat} {n : Nat} : ∀ N, mqN f n N = 0 ∨ ∃ x, x < N ∧ mqN f n N = ctN f n x
  | 0 => Or.inl rfl
  | N + 1 => by
    have ih := mqN_is (f := f) (n := n) N
    simp only [mqN]
    split
    · rcases ih with h | ⟨j, h1, h2⟩
      · exact Or.inl h
      · exact Or.inr ⟨j, by omega, h2⟩
    · exact Or.inr ⟨N, by omega, rfl⟩
theorem mx_mq {f : Nat → Nat} {n : Nat} (hn : n ≤ 30) (hb : ∀ t, f t < 64) : mxN f n n = mqN f n 64 := by
  apply Nat.le_antisymm
  · rcases mxN_is (f := f) (n := n) n with h | ⟨j, h1, h2⟩
    · omega
    · rw [h2]; exact mqN_ge 64 _ (hb j)
  · rcases mqN_is (f := f) (n := n) 64 with h | ⟨x, h1, h2⟩
    · omega
    · by_cases h0 : 0 < ctN f n x
      · obtain ⟨j, hj, e⟩ := (ctN_pos f x n).mp h0
        have := mxN_ge (f := f) hn n (Nat.le_refl _) j hj
        rw [e] at this
        omega
      · omega
section
variable {T PF PS : Nat → Option Nat} {C : Nat → Nat → Int32} {rc g pp bn sc s nt : Nat → Int32} {tl : List zC} {n q : Nat}
theorem cn_nat (hn : n ≤ 30) {x : Nat} (hx : x < 64) : cnV s n x = nI (ctN (lwN s) n x) :=
  ct_sm (nt := fun t => lwTo s t 6) (f := lwN s) (fun t _ => (lwN_eq s t).1) (fun t => (lwN_eq s t).2) hx
theorem ms_nat (hn : n ≤ 30) : ∀ x, x ≤ 64 → msV s n x = nI (mqN (lwN s) n x)
  | 0, _ => rfl
  | x + 1, h => by
    simp only [msV, mqN]
    have h1 := mqN_le (f := lwN s) (n := n) x
    have h2 := ctN_le (lwN s) n x
    rw [ms_nat hn x (by omega), cn_nat hn (show x < 64 by omega)]
    by_cases hle : ctN (lwN s) n x ≤ mqN (lwN s) n x
    · rw [if_pos (nI_le hle (by omega)), if_pos hle]
    · rw [if_neg (nI_ge (by omega) (by omega)), if_neg hle]
theorem sorts_eq (I : RR T PF PS C rc g pp bn sc s tl n q) : srC (cp (lf C g (sc 3) s) nt n) n n = (sm (fun x => if 0 < cnV s n x then 1 else 0) 64, msV s n 64) := by
  rw [srC_eq (f := lwN s) (fun t ht => by rw [nt_lw I ht]; exact (lwN_eq s t).1) (fun t => (lwN_eq s t).2) I.n30 n (Nat.le_refl _), ← dist_eq (lwN s) (fun t => (lwN_eq s t).2), mx_mq I.n30 (fun t => (lwN_eq s t).2), ms_nat I.n30 64 (Nat.le_refl _)]
  congr 1
  refine (sm_nat (fun x hx => ?_)).symm
  rw [ind_nat]
  congr 1
  have := ctN_le (lwN s) n x
  have := I.n30
  rw [cn_nat I.n30 hx]
  exact ite_iff (nI_ltI (a := 0) (by omega) (by omega)) rfl rfl
end
