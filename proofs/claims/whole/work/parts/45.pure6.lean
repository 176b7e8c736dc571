/-! SUMS: share, grows, together, leads, counts, the rest -/
theorem wt_nat {sc mk yr ak : Int32} (h : GP 999 sc) (hy : NT 99 yr) : ∃ W, W ≤ 1014 ∧ wtV sc mk yr ak = nI W := by
  unfold wtV
  split
  · exact ⟨1, by decide, rfl⟩
  · split
    · exact ⟨5, by decide, rfl⟩
    · split
      · split
        · rcases h with h | ⟨x, h, hx⟩
          · rw [h, if_pos (by decide)]; exact ⟨15, by decide, rfl⟩
          · rw [h, if_neg (nI_pos (by omega)), show (15 : Int32) = nI 15 from rfl, nI_add]
            exact ⟨15 + x, by omega, rfl⟩
        · exact ⟨15, by decide, rfl⟩
      · split
        · obtain ⟨y, e, hy2⟩ := hy
          rw [e, show (20 : Int32) = nI 20 from rfl, pk_div (by omega) (by decide) (by decide), show (8 : Int32) = nI 8 from rfl, pk_sub (by omega)]
          exact ⟨8 - y / 20, by omega, rfl⟩
        · exact ⟨8, by decide, rfl⟩
/-- a Telling's weight as a number -/
def wtN (s : Nat → Int32) (t : Nat) : Nat := ix (wtV (s (6 + 6 * t + 1)) (s (6 + 6 * t + 3)) (s (6 + 6 * t + 4)) (s (6 + 6 * t + 5)))

theorem mk7 : ∀ x, x < 256 → (nI x &&& 128 = 128 ↔ mkd (nI x) 7 = true) := by decide +kernel
section
variable {T PF PS : Nat → Option Nat} {C : Nat → Nat → Int32} {rc g pp bn sc s nt : Nat → Int32} {tl : List zC} {n q : Nat}
theorem wtN_eq (I : RR T PF PS C rc g pp bn sc s tl n q) {t : Nat} (ht : t < n) : wtV (s (6 + 6 * t + 1)) (s (6 + 6 * t + 3)) (s (6 + 6 * t + 4)) (s (6 + 6 * t + 5)) = nI (wtN s t) ∧ wtN s t ≤ 1014 := by
  obtain ⟨W, hW, e⟩ := wt_nat (mk := s (6 + 6 * t + 3)) (ak := s (6 + 6 * t + 5)) (I.rg.tz t ht 1 (by decide)) (I.rg.ty t ht)
  have : wtN s t = W := by unfold wtN; rw [e]; exact nI_clamp (by omega)
  rw [this]; exact ⟨e, hW⟩
theorem wtC_eq (I : RR T PF PS C rc g pp bn sc s tl n q) {t : Nat} (ht : t < n) : wtC (s (6 + 6 * t + 1)) (s (6 + 6 * t + 3)) (s (6 + 6 * t + 4)) (s (6 + 6 * t + 5)) = wtV (s (6 + 6 * t + 1)) (s (6 + 6 * t + 3)) (s (6 + 6 * t + 4)) (s (6 + 6 * t + 5)) :=
  wt_eq (I.rg.tz t ht 1 (by decide))
theorem ws1_eq (I : RR T PF PS C rc g pp bn sc s tl n q) : wsV1 s n = nI (smN (wtN s) n) ∧ smN (wtN s) n < 32768 := by
  refine ⟨sm_nat (fun t ht => (wtN_eq I ht).1), ?_⟩
  have := smN_le (F := wtN s) (m := 1014) (n := n) (fun t ht => (wtN_eq I ht).2)
  have := I.n30
  have : n * 1014 ≤ 30 * 1014 := Nat.mul_le_mul_right _ I.n30
  omega
theorem ws2_eq (I : RR T PF PS C rc g pp bn sc s tl n q) (l : Nat) : wsV2 s n l = nI (smN (fun t => if fit s t l 0 = true then wtN s t else 0) n) ∧ smN (fun t => if fit s t l 0 = true then wtN s t else 0) n < 32768 := by
  refine ⟨sm_nat (fun t ht => ?_), ?_⟩
  · by_cases h : fit s t l 0 = true
    · rw [if_pos h, if_pos h]; exact (wtN_eq I ht).1
    · rw [if_neg h, if_neg h]; rfl
  · have := smN_le (F := fun t => if fit s t l 0 = true then wtN s t else 0) (m := 1014) (n := n) (fun t ht => by
      have := (wtN_eq I ht).2
      by_cases h : fit s t l 0 = true
      · simp only [h, if_true]; exact this
      · simp only [h]; simp)
    have : n * 1014 ≤ 30 * 1014 := Nat.mul_le_mul_right _ I.n30
    omega
theorem wc1_eq (I : RR T PF PS C rc g pp bn sc s tl n q) : sm (fun i => wtC (s (6 + 6 * i + 1)) (s (6 + 6 * i + 3)) (s (6 + 6 * i + 4)) (s (6 + 6 * i + 5))) n = wsV1 s n :=
  sm_congr (fun t ht => wtC_eq I ht)
theorem wc2_eq (I : RR T PF PS C rc g pp bn sc s tl n q) {l : Nat} (hl : l < 6) : sm (fun i => if bk C g (sc 3) s i l = 0 then wtC (s (6 + 6 * i + 1)) (s (6 + 6 * i + 3)) (s (6 + 6 * i + 4)) (s (6 + 6 * i + 5)) else 0) n = wsV2 s n l :=
  sm_congr (fun t ht => ite_iff (bk_fit I ht hl) (wtC_eq I ht) rfl)
theorem seen_eq (I : RR T PF PS C rc g pp bn sc s tl n q) {l : Nat} (hl : l < 6) : sm (fun i => if bk C g (sc 3) s i l = 0 then 1 else 0) n = seenV s n l :=
  sm_congr (fun t ht => ite_iff (bk_fit I ht hl) rfl rfl)
theorem shown_eq (I : RR T PF PS C rc g pp bn sc s tl n q) {l : Nat} (hl : l < 6) : sc 2 * sm pp (ix (rc l)) = shV s l := by
  unfold shV
  rw [I.c2, I.crc l hl, Int32.mul_comm]
  congr 1
  have h10 := (I.rg.rc l hl).ix.2
  exact sm_congr (fun k hk => I.cpp k (by omega))
theorem rgc (I : RR T PF PS C rc g pp bn sc s tl n q) : RGc rc := fun l hl => by
  rw [I.crc l hl]; exact (I.rg.rc l hl).ix
theorem only_eq (I : RR T PF PS C rc g pp bn sc s tl n q) {l : Int32} (hl : inR l 6 = true) : sm (fun i => if s (6 + 6 * i + 3) &&& 0 = 0 then (if lf C g (sc 3) s i = 1 <<< (nI (ix l) &&& 31) then 1 else 0) else 0) n = sm (fun t => if lwTo s t 6 = 1 <<< (l &&& 31) then 1 else 0) n :=
  sm_congr (fun t ht => by rw [if_pos Int32.and_zero, lf_eq I ht, ← (inR_ix hl (n := 6) rfl (by decide)).1])
theorem pict_eq (I : RR T PF PS C rc g pp bn sc s tl n q) {l : Int32} (hl : inR l 6 = true) : sm (fun i => if s (6 + 6 * i + 3) &&& 128 = 128 then (if lf C g (sc 3) s i = 1 <<< (nI (ix l) &&& 31) then 1 else 0) else 0) n = sm (fun t => if mkd (s (6 + 6 * t + 3)) 7 = true then (if lwTo s t 6 = 1 <<< (l &&& 31) then 1 else 0) else 0) n :=
  sm_congr (fun t ht => by
    rw [lf_eq I ht, ← (inR_ix hl (n := 6) rfl (by decide)).1]
    obtain ⟨x, e, hx⟩ := I.rg.tm t ht
    rw [e]
    exact ite_iff (mk7 x (by omega)) rfl rfl)
/-! grows -/
theorem pa_gp (I : RR T PF PS C rc g pp bn sc s tl n q) {w k : Nat} (hw : w < 2) (hk : k < q) : GP 999 (paV s w k) ∧ GP 999 (pbV s w k) :=
  ⟨I.rg.tz _ (I.pr k hk).1.2 w hw, I.rg.tz _ (I.pr k hk).2.2 w hw⟩
def paN (s : Nat → Int32) (w k : Nat) : Nat := if paV s w k < 0 then 0 else if pbV s w k < 0 then 0 else ix (paV s w k)
def pbN (s : Nat → Int32) (w k : Nat) : Nat := if paV s w k < 0 then 0 else if pbV s w k < 0 then 0 else ix (pbV s w k)
theorem gp_ix {m : Nat} {v : Int32} (h : GP m v) (h0 : ¬ v < 0) (hm : m < 2 ^ 31 := by decide) : v = nI (ix v) ∧ ix v ≤ m := by
  rcases h with h | h
  · rw [h] at h0; exact absurd (by decide) h0
  · exact h.ix hm
theorem g1_eq (I : RR T PF PS C rc g pp bn sc s tl n q) {w : Nat} (hw : w < 2) : g1V s w q = nI (smN (paN s w) q) ∧ smN (paN s w) q < 32768 := by
  have key : ∀ k, k < q → (if paV s w k < 0 then 0 else if pbV s w k < 0 then 0 else paV s w k) = nI (paN s w k) ∧ paN s w k ≤ 999 := fun k hk => by
    unfold paN
    by_cases h1 : paV s w k < 0
    · rw [if_pos h1, if_pos h1]; exact ⟨rfl, by decide⟩
    · rw [if_neg h1, if_neg h1]
      by_cases h2 : pbV s w k < 0
      · rw [if_pos h2, if_pos h2]; exact ⟨rfl, by decide⟩
      · rw [if_neg h2, if_neg h2]; exact gp_ix (pa_gp I hw hk).1 h1
  refine ⟨sm_nat (fun k hk => (key k hk).1), ?_⟩
  have := smN_le (F := paN s w) (m := 999) (n := q) (fun k hk => (key k hk).2)
  have : q * 999 ≤ 10 * 999 := Nat.mul_le_mul_right _ I.q10
  omega
theorem g2_eq (I : RR T PF PS C rc g pp bn sc s tl n q) {w : Nat} (hw : w < 2) : g2V s w q = nI (smN (pbN s w) q) ∧ smN (pbN s w) q < 32768 := by
  have key : ∀ k, k < q → (if paV s w k < 0 then 0 else if pbV s w k < 0 then 0 else pbV s w k) = nI (pbN s w k) ∧ pbN s w k ≤ 999 := fun k hk => by
    unfold pbN
    by_cases h1 : paV s w k < 0
    · rw [if_pos h1, if_pos h1]; exact ⟨rfl, by decide⟩
    · rw [if_neg h1, if_neg h1]
      by_cases h2 : pbV s w k < 0
      · rw [if_pos h2, if_pos h2]; exact ⟨rfl, by decide⟩
      · rw [if_neg h2, if_neg h2]; exact gp_ix (pa_gp I hw hk).2 h2
  refine ⟨sm_nat (fun k hk => (key k hk).1), ?_⟩
  have := smN_le (F := pbN s w) (m := 999) (n := q) (fun k hk => (key k hk).2)
  have : q * 999 ≤ 10 * 999 := Nat.mul_le_mul_right _ I.q10
  omega
theorem ppr1 (I : RR T PF PS C rc g pp bn sc s tl n q) : PPr tl PF (fun k w => s (6 + 6 * ix (s (234 + 2 * k)) + w)) q := fun k hk => by
  obtain ⟨j, e1, e2⟩ := I.tt.1 _ (I.pr k hk).1.2
  exact ⟨j, by rw [(I.pf k hk).1]; exact e1, e2⟩
theorem ppr2 (I : RR T PF PS C rc g pp bn sc s tl n q) : PPr tl PS (fun k w => s (6 + 6 * ix (s (234 + 2 * k + 1)) + w)) q := fun k hk => by
  obtain ⟨j, e1, e2⟩ := I.tt.1 _ (I.pr k hk).2.2
  exact ⟨j, by rw [(I.pf k hk).2]; exact e1, e2⟩
theorem gr1_eq (I : RR T PF PS C rc g pp bn sc s tl n q) {w : Nat} (hw : w < 2) : sm (fun k => if s (6 + 6 * ix (s (234 + 2 * k)) + w) = -9 then 0 else if s (6 + 6 * ix (s (234 + 2 * k + 1)) + w) = -9 then 0 else s (6 + 6 * ix (s (234 + 2 * k)) + w)) q = g1V s w q :=
  sm_congr (fun k hk => ite_iff (pa_gp I hw hk).1.iff rfl (ite_iff (pa_gp I hw hk).2.iff rfl rfl))
theorem gr2_eq (I : RR T PF PS C rc g pp bn sc s tl n q) {w : Nat} (hw : w < 2) : sm (fun k => if s (6 + 6 * ix (s (234 + 2 * k)) + w) = -9 then 0 else if s (6 + 6 * ix (s (234 + 2 * k + 1)) + w) = -9 then 0 else s (6 + 6 * ix (s (234 + 2 * k + 1)) + w)) q = g2V s w q :=
  sm_congr (fun k hk => ite_iff (pa_gp I hw hk).1.iff rfl (ite_iff (pa_gp I hw hk).2.iff rfl rfl))
/-! together -/
theorem tog_div {f : Nat → Prop} [DecidablePred f] {x : Int32} (hn : n ≤ 30) (h : ¬ sm (fun t => if f t then 1 else 0) n = 0) : (if sm (fun t => if f t then 1 else 0) n < 1 then 0 else 100 * x / sm (fun t => if f t then 1 else 0) n) = 100 * x / sm (fun t => if f t then 1 else 0) n := by
  have e : sm (fun t => if f t then 1 else 0) n = nI (smN (fun t => if f t then 1 else 0) n) := sm_nat (fun t _ => ind_nat (f t))
  have hb := smN_le (F := fun t => if f t then 1 else 0) (m := 1) (n := n) (fun t _ => by by_cases h : f t <;> simp [h])
  exact h100_eq e (by omega) h
theorem tog_div' {f : Nat → Prop} [DecidablePred f] {x : Int32} (hn : n ≤ 30) (h : ¬ sm (fun t => if f t then 0 else 1) n = 0) : (if sm (fun t => if f t then 0 else 1) n < 1 then 0 else 100 * x / sm (fun t => if f t then 0 else 1) n) = 100 * x / sm (fun t => if f t then 0 else 1) n := by
  have e : sm (fun t => if f t then 0 else 1) n = nI (smN (fun t => if f t then 0 else 1) n) := sm_nat (fun t _ => ind_nat' (f t))
  have hb := smN_le (F := fun t => if f t then 0 else 1) (m := 1) (n := n) (fun t _ => by by_cases h : f t <;> simp [h])
  exact h100_eq e (by omega) h
/-! leads -/
theorem smK_eq (I : RR T PF PS C rc g pp bn sc s tl n q) : smK s n = askV s n :=
  sm_congr (fun t ht => by
    rcases I.rg.ta t ht with h | h <;> rw [h] <;> rfl)
theorem smA_eq (I : RR T PF PS C rc g pp bn sc s tl n q) {l : Nat} (hl : l < 6) : smA C g (sc 3) s n l = afV s n l :=
  sm_congr (fun t ht => by
    rcases I.rg.ta t ht with h | h
    · rw [h, if_pos rfl, if_neg (by decide)]
    · rw [h, if_neg (by decide), if_pos rfl]
      exact ite_iff (bk_fit I ht hl) rfl rfl)
theorem ask_nat (I : RR T PF PS C rc g pp bn sc s tl n q) : ∃ A, askV s n = nI A ∧ A ≤ n := by
  refine ⟨smN (fun t => if s (6 + 6 * t + 5) = 1 then 1 else 0) n, sm_nat (fun t ht => ?_), ?_⟩
  · rcases I.rg.ta t ht with h | h <;> rw [h] <;> rfl
  · have := smN_le (F := fun t => if s (6 + 6 * t + 5) = 1 then 1 else 0) (m := 1) (n := n) (fun t _ => by by_cases h : s (6 + 6 * t + 5) = 1 <;> simp [h])
    omega
theorem ld_eq (I : RR T PF PS C rc g pp bn sc s tl n q) {l : Nat} (hl : l < 6) (h0 : ¬ askV s n = 0) (h1 : ¬ askV s n = s 0) : ldC C g (sc 3) s n (sc 0) l = ldV s n l := by
  unfold ldC ldV
  obtain ⟨A, e, hA⟩ := ask_nat I
  have h30 := I.n30
  have e2 : s 0 - askV s n = nI (n - A) := by rw [I.hn, e, pk_sub hA]
  have hne : ¬ A = n := fun z => h1 (by rw [e, I.hn, z])
  rw [smK_eq I, smA_eq I hl, show smF C g (sc 3) s n l = seenV s n l from seen_eq I hl, I.cn, ← I.hn, h100_eq e (by omega) h0, h100_eq e2 (by omega) (by rw [e2]; exact nI_ne0 (by omega) (by omega))]
theorem lb_eq (I : RR T PF PS C rc g pp bn sc s tl n q) (h0 : ¬ askV s n = 0) (h1 : ¬ askV s n = s 0) : ∀ l, l ≤ 6 → lbC C g (sc 3) s n (sc 0) l = lbV s n l ∧ ((lbV s n l).1 = -9 ∨ 0 ≤ (lbV s n l).1)
  | 0, _ => ⟨rfl, Or.inl rfl⟩
  | l + 1, h => by
    obtain ⟨e, hp⟩ := lb_eq I h0 h1 l (by omega)
    have hl6 : l < 2 ^ 31 := by omega
    simp only [lbC, lbV]
    rw [e, ld_eq I (show l < 6 by omega) h0 h1]
    rcases hp with hp | hp
    · rw [if_pos hp, if_neg (fun z => by rw [hp] at z; exact absurd z.1 (by decide))]
      exact ⟨rfl, Or.inr (nI_pos' hl6)⟩
    · have hne : ¬ (lbV s n l).1 = -9 := fun z => by rw [z] at hp; exact absurd hp (by decide)
      rw [if_neg hne]
      by_cases hle : ldV s n l ≤ (lbV s n l).2
      · rw [if_pos hle, if_pos ⟨hp, hle⟩]
        exact ⟨rfl, Or.inr hp⟩
      · rw [if_neg hle, if_neg (fun z => hle z.2)]
        exact ⟨rfl, Or.inr (nI_pos' hl6)⟩
theorem leads_eq (I : RR T PF PS C rc g pp bn sc s tl n q) : (if smK s n = 0 then -9 else if sc 0 - smK s n = 0 then -9 else (lbC C g (sc 3) s n (sc 0) 6).1) = if askV s n = 0 then -9 else if askV s n = s 0 then -9 else (lbV s n 6).1 := by
  rw [smK_eq I]
  by_cases h0 : askV s n = 0
  · rw [if_pos h0, if_pos h0]
  · rw [if_neg h0, if_neg h0]
    by_cases h1 : askV s n = s 0
    · rw [if_pos h1, if_pos (by rw [h1, I.cn, I.hn]; exact Int32.sub_self _)]
    · rw [if_neg h1, if_neg (fun z => h1 ?_), (lb_eq I h0 h1 6 (Nat.le_refl _)).1]
      obtain ⟨A, e, hA⟩ := ask_nat I
      have h30 := I.n30
      rw [I.cn, e, pk_sub hA] at z
      have := (nI_eq (b := 0) (by omega) (by decide)).mp z
      rw [e, I.hn, show A = n by omega]
/-! counts -/
theorem gaps_eq (I : RR T PF PS C rc g pp bn sc s tl n q) : sm (fun i => (if s (6 + 6 * i + 0) = -9 then 1 else 0) + (if s (6 + 6 * i + 1) = -9 then 1 else 0) + (if s (6 + 6 * i + 2) = -9 then 1 else 0)) n = sm (fun t => sm (fun k => if s (6 + 6 * t + k) < 0 then 1 else 0) 3) n :=
  sm_congr (fun t ht => by
    simp only [sm]
    rw [Int32.zero_add, ite_iff (I.rg.tz t ht 0 (by decide)).iff rfl rfl, ite_iff (I.rg.tz t ht 1 (by decide)).iff rfl rfl, ite_iff (I.rg.tc t ht).iff rfl rfl])
theorem marks_eq (I : RR T PF PS C rc g pp bn sc s tl n q) : sm (fun i => bcI (s (6 + 6 * i + 3))) n = sm (fun t => nI (pop 8 (ix (s (6 + 6 * t + 3))))) n :=
  sm_congr (fun t ht => by
    have h := (I.rg.tm t ht).ix
    rw [← bc8 _ (by omega), ← h.1])
theorem marks_hm (I : RR T PF PS C rc g pp bn sc s tl n q) : ∀ t, t < n → s (6 + 6 * t + 3) = nI (ix (s (6 + 6 * t + 3))) ∧ ix (s (6 + 6 * t + 3)) < 2 ^ 8 := fun t ht => by
  have h := (I.rg.tm t ht).ix
  exact ⟨h.1, by omega⟩
end
