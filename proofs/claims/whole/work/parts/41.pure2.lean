/-! sums as numbers -/
def smN (F : Nat → Nat) : Nat → Nat
  | 0 => 0
  | n + 1 => smN F n + F n
theorem sm_nat {f : Nat → Int32} {F : Nat → Nat} : ∀ {n : Nat}, (∀ i, i < n → f i = nI (F i)) → sm f n = nI (smN F n)
  | 0, _ => rfl
  | n + 1, h => by
    simp only [sm, smN]
    rw [sm_nat (fun i hi => h i (by omega)), h n (by omega), nI_add]
theorem smN_le {F : Nat → Nat} {m : Nat} : ∀ {n : Nat}, (∀ i, i < n → F i ≤ m) → smN F n ≤ n * m
  | 0, _ => by simp [smN]
  | n + 1, h => by
    simp only [smN]
    have h1 := smN_le (F := F) (m := m) (n := n) (fun i hi => h i (by omega))
    have h2 := h n (by omega)
    rw [Nat.succ_mul]; omega
theorem smN_mono {F G : Nat → Nat} : ∀ {n : Nat}, (∀ i, i < n → F i ≤ G i) → smN F n ≤ smN G n
  | 0, _ => Nat.le_refl _
  | n + 1, h => by
    simp only [smN]
    have h1 := smN_mono (F := F) (G := G) (n := n) (fun i hi => h i (by omega))
    have h2 := h n (by omega)
    omega
theorem smN_congr {F G : Nat → Nat} : ∀ {n : Nat}, (∀ i, i < n → F i = G i) → smN F n = smN G n
  | 0, _ => rfl
  | n + 1, h => by
    simp only [smN]
    rw [smN_congr (F := F) (G := G) (n := n) (fun i hi => h i (by omega)), h n (by omega)]
theorem smN_add {F G : Nat → Nat} : ∀ {n : Nat}, smN (fun i => F i + G i) n = smN F n + smN G n
  | 0 => rfl
  | n + 1 => by
    simp only [smN]
    rw [smN_add (n := n)]; omega
theorem ind_nat (p : Prop) [Decidable p] : (if p then (1 : Int32) else 0) = nI (if p then 1 else 0) := by
  by_cases h : p <;> simp [h] <;> rfl
theorem ind_nat' (p : Prop) [Decidable p] : (if p then (0 : Int32) else 1) = nI (if p then 0 else 1) := by
  by_cases h : p <;> simp [h] <;> rfl
theorem h100_eq {x y : Int32} {Y : Nat} (e : y = nI Y) (hY : Y < 2 ^ 31) (h : ¬ y = 0) : h100 x y = 100 * x / y := by
  unfold h100
  rw [if_neg]
  rw [e] at h ⊢
  have : Y ≠ 0 := fun z => h (by rw [z]; rfl)
  exact nI_nlt (a := Y) (b := 1) (by omega) hY
theorem bc8 : ∀ x, x < 256 → bcI (nI x) = nI (pop 8 x) := by decide +kernel
theorem mk_or {x y k : Int32} : mkd (x ||| y) k = (mkd x k || mkd y k) := by
  unfold mkd
  have e : ((x ||| y) >>> (k &&& 31)) &&& 1 = ((x >>> (k &&& 31)) &&& 1) ||| ((y >>> (k &&& 31)) &&& 1) := by
    rw [Int32.shiftRight_or]
    apply Int32.toBitVec_inj.mp
    simp only [Int32.toBitVec_and, Int32.toBitVec_or]
    ext i
    simp only [BitVec.getElem_and, BitVec.getElem_or]
    cases (x >>> (k &&& 31)).toBitVec[i] <;> cases (y >>> (k &&& 31)).toBitVec[i] <;> cases (Int32.toBitVec 1)[i] <;> rfl
  rw [e]
  rcases and1_or (x >>> (k &&& 31)) with h1 | h1 <;> rcases and1_or (y >>> (k &&& 31)) with h2 | h2 <;> rw [h1, h2] <;> decide
theorem mk_and {x y k : Int32} : mkd (x &&& y) k = (mkd x k && mkd y k) := by
  unfold mkd
  have e : ((x &&& y) >>> (k &&& 31)) &&& 1 = ((x >>> (k &&& 31)) &&& 1) &&& ((y >>> (k &&& 31)) &&& 1) := by
    rw [Int32.shiftRight_and]
    apply Int32.toBitVec_inj.mp
    simp only [Int32.toBitVec_and]
    ext i
    simp only [BitVec.getElem_and]
    cases (x >>> (k &&& 31)).toBitVec[i] <;> cases (y >>> (k &&& 31)).toBitVec[i] <;> cases (Int32.toBitVec 1)[i] <;> rfl
  rw [e]
  rcases and1_or (x >>> (k &&& 31)) with h1 | h1 <;> rcases and1_or (y >>> (k &&& 31)) with h2 | h2 <;> rw [h1, h2] <;> decide

theorem mk_not : ∀ b, b < 256 → ∀ k, k < 8 → mkd (nI b ^^^ -1) (nI k) = !mkd (nI b) (nI k) := by decide +kernel
theorem mk_shl3 : ∀ c, c < 256 → ∀ k, k < 11 → mkd (nI c <<< (3 &&& 31)) (nI k) = if 2 < k then mkd (nI c) (nI (k - 3)) else false := by decide +kernel
theorem ll_nat : ∀ c, c < 256 → ∀ l0 l1 l2 : Bool, (((nI c <<< (3 &&& 31)) ||| (if l0 = true then 0 else 1)) ||| (if l1 = true then 0 else 2)) ||| (if l2 = true then 0 else 4) = nI (8 * c + (if l0 = true then 0 else 1) + (if l1 = true then 0 else 2) + (if l2 = true then 0 else 4)) := by decide +kernel
theorem bc11 : ∀ x, x < 2048 → 11 - bcI (nI x) = sm (fun k => if mkd (nI x) (nI k) = true then 0 else 1) 11 := by decide +kernel
theorem mk_low : ∀ l0 l1 l2 : Bool, ∀ k, k < 11 → (mkd (if l0 = true then 0 else 1) (nI k) = (!l0 && decide (k = 0))) ∧ (mkd (if l1 = true then 0 else 2) (nI k) = (!l1 && decide (k = 1))) ∧ (mkd (if l2 = true then 0 else 4) (nI k) = (!l2 && decide (k = 2))) := by decide +kernel
theorem and_small {a : Nat} (ha : a < 256) (y : Int32) : ∃ c, c < 256 ∧ nI a &&& y = nI c := by
  have e : nI a &&& y = (nI a &&& y) &&& 255 := by
    have h : nI a = nI a &&& 255 := by rw [pk_andN (n := a) (m := 255) (by omega) 8 (by decide), Nat.mod_eq_of_lt ha]
    rw [Int32.and_assoc, Int32.and_comm y 255, ← Int32.and_assoc, ← h]
  rw [e]
  exact pk_andE _ 8 (by decide)
theorem fnd_congr {n : Nat} {p q : Nat → Bool} (h : ∀ k, k < n → p k = q k) : fnd n p = fnd n q := by
  by_cases hx : ∃ k, k < n ∧ p k = true
  · have : ∃ k, (k < n ∧ p k = true) ∧ ∀ j, j < k → p j = false := by
      obtain ⟨k, hk, hp⟩ := hx
      induction k using Nat.strongRecOn with
      | _ k ih =>
        by_cases hj : ∃ j, j < k ∧ p j = true
        · obtain ⟨j, h1, h2⟩ := hj
          exact ih j h1 (by omega) h2
        · refine ⟨k, ⟨hk, hp⟩, fun j h1 => ?_⟩
          cases hpj : p j with
          | false => rfl
          | true => exact absurd ⟨j, h1, hpj⟩ hj
    obtain ⟨k, ⟨hk, hp⟩, hb⟩ := this
    rw [fnd_some hk hp hb, fnd_some hk (by rw [← h k hk]; exact hp) (fun j hj => by rw [← h j (by omega)]; exact hb j hj)]
  · have hb : ∀ k, k < n → p k = false := fun k hk => by
      cases hpj : p k with
      | false => rfl
      | true => exact absurd ⟨k, hk, hpj⟩ hx
    rw [fnd_none hb, fnd_none (fun k hk => by rw [← h k hk]; exact hb k hk)]
section
variable {T PF PS : Nat → Option Nat} {C : Nat → Nat → Int32} {rc g pp bn sc s : Nat → Int32} {tl : List zC} {n q : Nat}
theorem ll_eq (I : RR T PF PS C rc g pp bn sc s tl n q) {t : Nat} (ht : t < n) : (∃ x, x < 2048 ∧ llC bn (fun k => s (6 + 6 * t + k)) = nI x) ∧ ∀ k, k < 11 → mkd (llC bn (fun k => s (6 + 6 * t + k))) (nI k) = !hlV s t k := by
  obtain ⟨a, ea, ha⟩ := I.rg.tm t ht
  obtain ⟨b, eb, hb⟩ := I.rg.bm
  obtain ⟨c, hc, ec⟩ := and_small (show a < 256 by omega) (nI b ^^^ -1)
  have b0 : (if s (6 + 6 * t + 0) ≤ bn 0 then (0 : Int32) else 1) = if decide (s (6 + 6 * t + 0) ≤ bn 0) = true then 0 else 1 := ite_iff decide_eq_true_iff.symm rfl rfl
  have b1 : (if s (6 + 6 * t + 1) ≤ bn 1 then (0 : Int32) else 2) = if decide (s (6 + 6 * t + 1) ≤ bn 1) = true then 0 else 2 := ite_iff decide_eq_true_iff.symm rfl rfl
  have b2 : (if s (6 + 6 * t + 2) = -9 then (0 : Int32) else if s (6 + 6 * t + 2) = bn 2 then 0 else 4) = if (decide (s (6 + 6 * t + 2) = -9) || decide (s (6 + 6 * t + 2) = bn 2)) = true then 0 else 4 := ite_orD.symm
  have el : llC bn (fun k => s (6 + 6 * t + k)) = (((nI c <<< (3 &&& 31)) ||| (if decide (s (6 + 6 * t + 0) ≤ bn 0) = true then 0 else 1)) ||| (if decide (s (6 + 6 * t + 1) ≤ bn 1) = true then 0 else 2)) ||| (if (decide (s (6 + 6 * t + 2) = -9) || decide (s (6 + 6 * t + 2) = bn 2)) = true then 0 else 4) := by
    unfold llC
    rw [b0, b1, b2]
    show (((s (6 + 6 * t + 3) &&& (bn 3 ^^^ -1)) <<< (3 &&& 31) ||| _) ||| _) ||| _ = _
    rw [I.cbn 3 (by decide), show s (264 + 3) = nI b from eb, ea, ec]
  rw [el]
  refine ⟨?_, fun k hk => ?_⟩
  · rw [ll_nat c hc]
    refine ⟨_, ?_, rfl⟩
    by_cases h0 : decide (s (6 + 6 * t + 0) ≤ bn 0) = true <;> by_cases h1 : decide (s (6 + 6 * t + 1) ≤ bn 1) = true <;> by_cases h2 : (decide (s (6 + 6 * t + 2) = -9) || decide (s (6 + 6 * t + 2) = bn 2)) = true <;> simp only [h0, h1, h2, if_true, if_false] <;> simp <;> omega
  · obtain ⟨l0, l1, l2⟩ := mk_low (decide (s (6 + 6 * t + 0) ≤ bn 0)) (decide (s (6 + 6 * t + 1) ≤ bn 1)) (decide (s (6 + 6 * t + 2) = -9) || decide (s (6 + 6 * t + 2) = bn 2)) k hk
    rw [mk_or, mk_or, mk_or, l0, l1, l2, mk_shl3 c hc k hk]
    by_cases h3 : 2 < k
    · rw [if_pos h3, show decide (k = 0) = false from decide_eq_false (by omega), show decide (k = 1) = false from decide_eq_false (by omega), show decide (k = 2) = false from decide_eq_false (by omega)]
      simp only [Bool.and_false, Bool.or_false]
      unfold hlV
      rw [if_pos h3, ← ec, mk_and, mk_not b (by omega) (k - 3) (by omega), ea, eb, show nI k - 3 = nI (k - 3) from pk_sub (a := k) (b := 3) (by omega)]
      show (mkd (nI a) (nI (k - 3)) && !mkd (nI b) (nI (k - 3))) = !(!mkd (nI a) (nI (k - 3)) || mkd (nI b) (nI (k - 3)))
      cases mkd (nI a) (nI (k - 3)) <;> cases mkd (nI b) (nI (k - 3)) <;> rfl
    · rw [if_neg h3]
      have hz : ∀ w, w < 2 → (decide (s (6 + 6 * t + w) < 0) || decide (s (6 + 6 * t + w) ≤ s (264 + w))) = decide (s (6 + 6 * t + w) ≤ bn w) := fun w hw => by
        rw [I.cbn w (by omega)]
        by_cases h : s (6 + 6 * t + w) < 0
        · have : s (6 + 6 * t + w) ≤ s (264 + w) := by
            have h1 := Int32.lt_iff_toInt_lt.mp h
            have h2 := Int32.le_iff_toInt_le.mp (Int32.not_lt.mp (I.rg.bn w hw).pos)
            rw [Int32.le_iff_toInt_le]; omega
          rw [decide_eq_true h, decide_eq_true this]; rfl
        · rw [decide_eq_false h]; rfl
      rcases (show k = 0 ∨ k = 1 ∨ k = 2 by omega) with rfl | rfl | rfl
      · have : hlV s t 0 = (decide (s (6 + 6 * t + 0) < 0) || decide (s (6 + 6 * t + 0) ≤ s (264 + 0))) := rfl
        rw [this, hz 0 (by decide)]
        simp
      · have : hlV s t 1 = (decide (s (6 + 6 * t + 1) < 0) || decide (s (6 + 6 * t + 1) ≤ s (264 + 1))) := rfl
        rw [this, hz 1 (by decide)]
        simp
      · have : hlV s t 2 = (decide (s (6 + 6 * t + 2) < 0) || decide (s 266 = s (6 + 6 * t + 2))) := rfl
        rw [this, I.cbn 2 (by decide)]
        have e1 : decide (s (6 + 6 * t + 2) = -9) = decide (s (6 + 6 * t + 2) < 0) := decide_eq_decide.mpr (I.rg.tc t ht).iff
        have e2 : decide (s (6 + 6 * t + 2) = s (264 + 2)) = decide (s 266 = s (6 + 6 * t + 2)) := decide_eq_decide.mpr ⟨fun h => h.symm, fun h => h.symm⟩
        rw [e1, e2]
        simp
theorem lines_eq (I : RR T PF PS C rc g pp bn sc s tl n q) {t : Nat} (ht : t < n) : 11 - bcI (llC bn (fun k => s (6 + 6 * t + k))) = sm (fun k => if hlV s t k = true then 1 else 0) 11 := by
  obtain ⟨⟨x, hx, e⟩, h⟩ := ll_eq I ht
  rw [e] at h ⊢
  rw [bc11 x hx]
  refine sm_congr (fun k hk => ?_)
  rw [h k hk]
  cases hlV s t k <;> rfl
theorem misses_eq (I : RR T PF PS C rc g pp bn sc s tl n q) {t : Nat} (ht : t < n) : fnd 11 (fun k => mkd (llC bn (fun q => s (6 + 6 * t + q))) (nI k)) = fnd 11 (fun k => !hlV s t k) :=
  fnd_congr (fun k hk => (ll_eq I ht).2 k hk)
theorem br_eq (I : RR T PF PS C rc g pp bn sc s tl n q) (c : Int32) : ∀ i, i ≤ 6 → brC C c i = brV s c i
  | 0, _ => rfl
  | i + 1, h => by
    simp only [brC, brV]
    rw [br_eq I c i (by omega), I.cC i 4 (by omega) (by decide)]
    by_cases hz : c &&& (s (186 + 8 * i + 4) ^^^ -1) = 0
    · rw [if_pos hz, if_pos hz, Int32.or_zero]
    · rw [if_neg hz, if_neg hz]
end
