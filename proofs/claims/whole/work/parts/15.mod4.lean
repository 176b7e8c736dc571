def seenV (s : Nat → Int32) (n l : Nat) : Int32 := sm (fun t => if fit s t l 0 = true then 1 else 0) n
def shV (s : Nat → Int32) (l : Nat) : Int32 := sm (fun q => s (254 + q)) (ix (s (186 + 8 * l + 7))) * s 3
/-- a law's reach is a small number -/
def RG (s : Nat → Int32) : Prop := ∀ l, l < 6 → s (186 + 8 * l + 7) = nI (ix (s (186 + 8 * l + 7))) ∧ ix (s (186 + 8 * l + 7)) ≤ 10
def brV (s : Nat → Int32) (c : Int32) : Nat → Int32
  | 0 => 0
  | i + 1 => brV s c i ||| (if c &&& (s (186 + 8 * i + 4) ^^^ -1) = 0 then (0 : Int32) else 1 <<< (nI i &&& 31))
def hlV (s : Nat → Int32) (t k : Nat) : Bool :=
  if 2 < k then (!mkd (s (6 + 6 * t + 3)) (nI k - 3) || decide ((s 267 >>> ((nI k - 3) &&& 31)) &&& 1 = 1))
  else (decide (s (6 + 6 * t + k) < 0) || (if k = 2 then decide (s 266 = s (6 + 6 * t + k)) else decide (s (6 + 6 * t + k) ≤ s (264 + k))))
def fnd (n : Nat) (p : Nat → Bool) : Int32 := match (List.range n).find? p with
  | some k => nI k
  | none => -9
theorem fnd_some {n k : Nat} {p : Nat → Bool} (h : k < n) (hp : p k = true) (hb : ∀ q, q < k → p q = false) : fnd n p = nI k := by
  unfold fnd
  have : (List.range n).find? p = some k := by
    rw [List.find?_range_eq_some]
    refine ⟨hp, List.mem_range.mpr h, fun q hq => ?_⟩
    simp [hb q hq]
  rw [this]
theorem fnd_none {n : Nat} {p : Nat → Bool} (hb : ∀ q, q < n → p q = false) : fnd n p = -9 := by
  unfold fnd
  have : (List.range n).find? p = none := by
    rw [List.find?_eq_none]
    intro q hq
    simp [hb q (List.mem_range.mp hq)]
  rw [this]
/-- how many ones -/
def pop : Nat → Nat → Nat
  | 0, _ => 0
  | f + 1, m => m % 2 + pop f (m / 2)
def psV (x y : Nat) (p : Int32) : Int32 := if p = 0 then nI (x / Nat.gcd x y) else nI (y / Nat.gcd x y)
def covV (s : Nat → Int32) (n : Nat) (set : Int32) : Bool := (List.range n).all (fun t => decide (lwTo s t 6 = 0) || !decide (lwTo s t 6 &&& set = 0))
theorem covV_iff {s : Nat → Int32} {n : Nat} {set : Int32} : covV s n set = true ↔ ∀ t, t < n → ¬ lwTo s t 6 = 0 → ¬ lwTo s t 6 &&& set = 0 := by
  unfold covV
  rw [List.all_eq_true]
  refine ⟨fun h t ht h1 => ?_, fun h t ht => ?_⟩
  · have := h t (List.mem_range.mpr ht)
    simpa [h1] using this
  · have := h t (List.mem_range.mp ht)
    by_cases h1 : lwTo s t 6 = 0
    · simp [h1]
    · simp [h1, this h1]
theorem covV_no {s : Nat → Int32} {n : Nat} {set : Int32} (h : ¬ ∀ t, t < n → ¬ lwTo s t 6 = 0 → ¬ lwTo s t 6 &&& set = 0) : covV s n set = false := by
  cases hf : covV s n set with
  | false => rfl
  | true => exact absurd (covV_iff.mp hf) h
def fcV (s : Nat → Int32) (n l : Nat) (set : Int32) : Int32 := sm (fun t => if fit s t l set = true then 1 else 0) n
def hfN (s : Nat → Int32) (n l : Nat) : Nat → Nat
  | 0 => 127
  | i + 1 => if s 0 ≤ 2 * fcV s n l (nI i) ∧ pop 8 i < pop 8 (hfN s n l i) then i else hfN s n l i
def cnV (s : Nat → Int32) (n : Nat) (set : Nat) : Int32 := sm (fun t => if lwTo s t 6 = nI set then 1 else 0) n
def msV (s : Nat → Int32) (n : Nat) : Nat → Int32
  | 0 => 0
  | i + 1 => if cnV s n i ≤ msV s n i then msV s n i else cnV s n i
def cp (s im : Nat → Int32) (k : Nat) : Nat → Int32 := fun j => if j < k then s j else im j
theorem cp_0 (s im : Nat → Int32) : cp s im 0 = im := by funext j; simp [cp]
theorem cp_s (s im : Nat → Int32) (k : Nat) : upd (cp s im k) k (s k) = cp s im (k + 1) := by
  funext j
  unfold upd cp
  by_cases h : j = k
  · subst h; simp
  · by_cases h2 : j < k
    · simp [h, h2, show j < k + 1 by omega]
    · simp [h, h2, show ¬ j < k + 1 by omega]
/-- each pair names two tellings -/
def PR (s : Nat → Int32) (q n : Nat) : Prop := ∀ k, k < q → (s (234 + 2 * k) = nI (ix (s (234 + 2 * k))) ∧ ix (s (234 + 2 * k)) < n) ∧ (s (234 + 2 * k + 1) = nI (ix (s (234 + 2 * k + 1))) ∧ ix (s (234 + 2 * k + 1)) < n)
def paV (s : Nat → Int32) (w k : Nat) : Int32 := s (6 + 6 * ix (s (234 + 2 * k)) + w)
def pbV (s : Nat → Int32) (w k : Nat) : Int32 := s (6 + 6 * ix (s (234 + 2 * k + 1)) + w)
def g1V (s : Nat → Int32) (w q : Nat) : Int32 := sm (fun k => if paV s w k < 0 then 0 else if pbV s w k < 0 then 0 else paV s w k) q
def g2V (s : Nat → Int32) (w q : Nat) : Int32 := sm (fun k => if paV s w k < 0 then 0 else if pbV s w k < 0 then 0 else pbV s w k) q
def wsV1 (s : Nat → Int32) (n : Nat) : Int32 := sm (fun t => wtV (s (6 + 6 * t + 1)) (s (6 + 6 * t + 3)) (s (6 + 6 * t + 4)) (s (6 + 6 * t + 5))) n
def wsV2 (s : Nat → Int32) (n l : Nat) : Int32 := sm (fun t => if fit s t l 0 = true then wtV (s (6 + 6 * t + 1)) (s (6 + 6 * t + 3)) (s (6 + 6 * t + 4)) (s (6 + 6 * t + 5)) else 0) n
def askV (s : Nat → Int32) (n : Nat) : Int32 := sm (fun t => s (6 + 6 * t + 5)) n
def afV (s : Nat → Int32) (n l : Nat) : Int32 := sm (fun t => if s (6 + 6 * t + 5) = 1 then (if fit s t l 0 = true then 1 else 0) else 0) n
def ldV (s : Nat → Int32) (n l : Nat) : Int32 := 100 * afV s n l / askV s n - 100 * (seenV s n l - afV s n l) / (s 0 - askV s n)
/-- the best law so far, and its number -/
def lbV (s : Nat → Int32) (n : Nat) : Nat → Int32 × Int32
  | 0 => (-9, 0)
  | l + 1 => if 0 ≤ (lbV s n l).1 ∧ ldV s n l ≤ (lbV s n l).2 then lbV s n l else (nI l, ldV s n l)
def rgS (s : Nat → Int32) (set : Int32) (r : Nat) : Int32 := sm (fun q => ((set >>> (nI q &&& 31)) &&& 1) * s (254 + q)) r
def gbV (s : Nat → Int32) (r m : Nat) : Nat → Int32 × Int32
  | 0 => (-9, 0)
  | i + 1 => if pop 10 i = m then (if 0 ≤ (gbV s r m i).1 ∧ rgS s (nI i) r ≤ (gbV s r m i).2 then gbV s r m i else (nI i, rgS s (nI i) r)) else gbV s r m i
set_option maxHeartbeats 400000 in
theorem r_Mod_seenOf {K : zKK} {rf s im mt rd sc : Nat → Int32} {tl : List zC} {n : Nat} (hn : s 0 = nI n) (hn30 : n ≤ 30) (hz0 : NZ s n) (l : Int32) (j : Nat) (hl : l = nI j) (hj : j < 6) : Ret 4 0 0 m_Mod_seenOf [.ref 45, .int l] (wld K (rf, s, im, mt, rd, sc) tl) (some (.int (seenV s n j))) (wld K (rf, s, im, mt, rd, sc) tl) := by
  subst hl
  refine Ret.of (n := 2) (by decide) (rfl) rfl (fun X => ?_)
  refine z_iconst d_Mod_seenOf_0 0 (by decide) 1 rfl ?_
  refine z_istore_n d_Mod_seenOf_1 2 rfl (by decide) rfl ?_
  refine z_iconst d_Mod_seenOf_2 0 (by decide) 3 rfl ?_
  refine z_istore_n d_Mod_seenOf_3 4 rfl (by decide) rfl ?_
  refine zloop (fun t => Z X m_Mod_seenOf 4 0 0 (some (.int (seenV s n j))) (wld K (rf, s, im, mt, rd, sc) tl) 4 [some (.ref 45), some (.int (nI j)), some (.int (sm (fun t => if fit s t j 0 = true then 1 else 0) t)), some (.int (nI t))] [] (wld K (rf, s, im, mt, rd, sc) tl)) (n) ?_ ?_ 0 (Nat.zero_le _)
  · refine z_iload_n d_Mod_seenOf_4 rfl 5 rfl ?_
    refine z_aload_n d_Mod_seenOf_5 rfl 6 rfl ?_
    refine z_get d_Mod_seenOf_6 9 rfl fl_Mod_13_11 wm_45 rfl ?_
    refine z_iconst d_Mod_seenOf_9 0 (by decide) 10 rfl ?_
    refine z_iaload d_Mod_seenOf_10 (0) 11 rfl wm_47 (rfl) (by omega) (by decide) ?_
    refine z_icmp_ge d_Mod_seenOf_11 38 14 (by decide) rfl (fun h1 => ?_) (fun h => absurd (by rw [hn]; exact Int32.le_refl _) h)
    refine z_iload_n d_Mod_seenOf_38 rfl 39 rfl ?_
    exact z_ireturn d_Mod_seenOf_39 (rfl) (rfl)
  · intro t ht ih
    refine z_iload_n d_Mod_seenOf_4 rfl 5 rfl ?_
    refine z_aload_n d_Mod_seenOf_5 rfl 6 rfl ?_
    refine z_get d_Mod_seenOf_6 9 rfl fl_Mod_13_11 wm_45 rfl ?_
    refine z_iconst d_Mod_seenOf_9 0 (by decide) 10 rfl ?_
    refine z_iaload d_Mod_seenOf_10 (0) 11 rfl wm_47 (rfl) (by omega) (by decide) ?_
    refine z_icmp_ge d_Mod_seenOf_11 38 14 (by decide) rfl (fun h => absurd h (by rw [hn]; exact nI_ge ht (by omega))) (fun h2 => ?_)
    refine z_iload_n d_Mod_seenOf_14 rfl 15 rfl ?_
    refine z_aload_n d_Mod_seenOf_15 rfl 16 rfl ?_
    refine z_iload_n d_Mod_seenOf_16 rfl 17 rfl ?_
    refine z_iload_n d_Mod_seenOf_17 rfl 18 rfl ?_
    refine z_iconst d_Mod_seenOf_18 0 (by decide) 19 rfl ?_
    refine z_invv d_Mod_seenOf_19 22 rfl hm_Mod_isFit lk_Mod_96 im_Mod_isFit sl_Mod_Mod_isFit rfl wm_45 (r_Mod_isFit _ _ _ (t) (j) rfl rfl (by omega) (by omega) (hz0 _ (by omega))) rfl rfl (by decide) rfl rfl (Nat.le_of_ble_eq_true rfl) ?_
    refine z_if_eq d_Mod_seenOf_22 29 25 (by decide) rfl (fun h3 => ?_) (fun h3 => ?_)
    · refine z_iconst d_Mod_seenOf_29 0 (by decide) 30 rfl ?_
      refine z_iadd d_Mod_seenOf_30 31 rfl ?_
      refine z_istore_n d_Mod_seenOf_31 32 rfl (by decide) rfl ?_
      refine z_iinc d_Mod_seenOf_32 1 (by decide) 35 rfl rfl (by decide) rfl ?_
      refine z_goto d_Mod_seenOf_35 4 (by decide) ?_
      exact z_L _ (by simp_all [List.set, nI_succ, sm, zb_eq, zb_ne]) ih
    · refine z_iconst d_Mod_seenOf_25 1 (by decide) 26 rfl ?_
      refine z_goto d_Mod_seenOf_26 30 (by decide) ?_
      refine z_iadd d_Mod_seenOf_30 31 rfl ?_
      refine z_istore_n d_Mod_seenOf_31 32 rfl (by decide) rfl ?_
      refine z_iinc d_Mod_seenOf_32 1 (by decide) 35 rfl rfl (by decide) rfl ?_
      refine z_goto d_Mod_seenOf_35 4 (by decide) ?_
      exact z_L _ (by simp_all [List.set, nI_succ, sm, zb_eq, zb_ne]) ih
set_option maxHeartbeats 400000 in
theorem r_Mod_seen {K : zKK} {rf s im mt rd sc : Nat → Int32} {tl : List zC} {n : Nat} (hn : s 0 = nI n) (hn30 : n ≤ 30) (hz0 : NZ s n) (l : Int32) : Ret 5 0 0 m_Mod_seen [.ref 45, .int l] (wld K (rf, s, im, mt, rd, sc) tl) (some (.int ((if inR l 6 = true then seenV s n (ix l) else -1)))) (wld K ((if inR l 6 = true then rf else rfu rf 1), s, im, mt, rd, sc) tl) := by
  refine Ret.of (n := 0) (by decide) (rfl) rfl (fun X => ?_)
  refine z_iload_n d_Mod_seen_0 rfl 1 rfl ?_
  refine z_invs d_Mod_seen_1 4 rfl hm_Mod_isLaw lk_Mod_79 st_Mod_isLaw (r_Mod_isLaw _) rfl rfl (by decide) rfl rfl (Nat.le_of_ble_eq_true rfl) ?_
  refine z_if_eq d_Mod_seen_4 15 7 (by decide) rfl (fun h1 => ?_) (fun h1 => ?_)
  · refine z_aload_n d_Mod_seen_15 rfl 16 rfl ?_
    refine z_iconst d_Mod_seen_16 (-1) (by decide) 17 rfl ?_
    refine z_invv d_Mod_seen_17 20 rfl hm_Mod_refuse lk_Mod_29 im_Mod_refuse sl_Mod_Mod_refuse rfl wm_45 (r_Mod_refuse (-1) 1 (by decide) (by decide)) rfl rfl (by decide) rfl rfl (Nat.le_of_ble_eq_true rfl) ?_
    exact z_ireturn d_Mod_seen_20 (by simp_all [zb_eq, zb_ne, ← Int32.not_le]) (by simp_all [zb_eq, zb_ne, rfu, ← Int32.not_le])
  · obtain ⟨i2, hi2, rfl⟩ := vld h1 (n := 6) rfl (by decide)
    have hci2 : (nI i2).toNatClampNeg = i2 := nI_clamp (by omega)
    refine z_aload_n d_Mod_seen_7 rfl 8 rfl ?_
    refine z_iload_n d_Mod_seen_8 rfl 9 rfl ?_
    refine z_invv d_Mod_seen_9 12 rfl hm_Mod_seenOf lk_Mod_118 im_Mod_seenOf sl_Mod_Mod_seenOf rfl wm_45 (r_Mod_seenOf hn hn30 hz0 _ (i2) rfl (by omega)) rfl rfl (by decide) rfl rfl (Nat.le_of_ble_eq_true rfl) ?_
    refine z_goto d_Mod_seen_12 20 (by decide) ?_
    exact z_ireturn d_Mod_seen_20 (by simp_all [zb_eq, zb_ne, ← Int32.not_le]) (by simp_all [zb_eq, zb_ne, rfu, ← Int32.not_le])
set_option maxHeartbeats 400000 in
theorem r_Mod_shouldOf {K : zKK} {rf s im mt rd sc : Nat → Int32} {tl : List zC} (hr : RG s) (l : Int32) (j : Nat) (hl : l = nI j) (hj : j < 6) : Ret 1 0 0 m_Mod_shouldOf [.ref 45, .int l] (wld K (rf, s, im, mt, rd, sc) tl) (some (.int (shV s j))) (wld K (rf, s, im, mt, rd, sc) tl) := by
  subst hl
  refine Ret.of (n := 2) (by decide) (rfl) rfl (fun X => ?_)
  refine z_iconst d_Mod_shouldOf_0 0 (by decide) 1 rfl ?_
  refine z_istore_n d_Mod_shouldOf_1 2 rfl (by decide) rfl ?_
  refine z_iconst d_Mod_shouldOf_2 0 (by decide) 3 rfl ?_
  refine z_istore_n d_Mod_shouldOf_3 4 rfl (by decide) rfl ?_
  refine zloop (fun q => Z X m_Mod_shouldOf 1 0 0 (some (.int (shV s j))) (wld K (rf, s, im, mt, rd, sc) tl) 4 [some (.ref 45), some (.int (nI j)), some (.int (sm (fun q => s (254 + q)) q)), some (.int (nI q))] [] (wld K (rf, s, im, mt, rd, sc) tl)) (ix (s (186 + 8 * j + 7))) ?_ ?_ 0 (Nat.zero_le _)
  · refine z_iload_n d_Mod_shouldOf_4 rfl 5 rfl ?_
    refine z_aload_n d_Mod_shouldOf_5 rfl 6 rfl ?_
    refine z_get d_Mod_shouldOf_6 9 rfl fl_Mod_13_11 wm_45 rfl ?_
    refine z_sipush d_Mod_shouldOf_9 186 (by decide) 12 rfl ?_
    refine z_bipush d_Mod_shouldOf_12 8 (by decide) 14 rfl ?_
    refine z_iload_n d_Mod_shouldOf_14 rfl 15 rfl ?_
    refine z_imul d_Mod_shouldOf_15 16 rfl ?_
    refine z_iadd d_Mod_shouldOf_16 17 rfl ?_
    refine z_bipush d_Mod_shouldOf_17 7 (by decide) 19 rfl ?_
    refine z_iadd d_Mod_shouldOf_19 20 rfl ?_
    refine z_iaload d_Mod_shouldOf_20 (((186 + (8 * j)) + 7)) 21 rfl wm_47 (by show ((nI 186 + (nI 8 * nI j)) + nI 7) = _; simp only [pk_mul, nI_add]) (by omega) (by decide) ?_
    refine z_icmp_ge d_Mod_shouldOf_21 43 24 (by decide) rfl (fun h1 => ?_) (fun h => absurd (by rw [← (hr j hj).1]; exact Int32.le_refl _) h)
    refine z_iload_n d_Mod_shouldOf_43 rfl 44 rfl ?_
    refine z_aload_n d_Mod_shouldOf_44 rfl 45 rfl ?_
    refine z_get d_Mod_shouldOf_45 48 rfl fl_Mod_13_11 wm_45 rfl ?_
    refine z_iconst d_Mod_shouldOf_48 3 (by decide) 49 rfl ?_
    refine z_iaload d_Mod_shouldOf_49 (3) 50 rfl wm_47 (rfl) (by omega) (by decide) ?_
    refine z_imul d_Mod_shouldOf_50 51 rfl ?_
    exact z_ireturn d_Mod_shouldOf_51 (rfl) (rfl)
  · intro q hq ih
    have hr2 := (hr j hj).2
    refine z_iload_n d_Mod_shouldOf_4 rfl 5 rfl ?_
    refine z_aload_n d_Mod_shouldOf_5 rfl 6 rfl ?_
    refine z_get d_Mod_shouldOf_6 9 rfl fl_Mod_13_11 wm_45 rfl ?_
    refine z_sipush d_Mod_shouldOf_9 186 (by decide) 12 rfl ?_
    refine z_bipush d_Mod_shouldOf_12 8 (by decide) 14 rfl ?_
    refine z_iload_n d_Mod_shouldOf_14 rfl 15 rfl ?_
    refine z_imul d_Mod_shouldOf_15 16 rfl ?_
    refine z_iadd d_Mod_shouldOf_16 17 rfl ?_
    refine z_bipush d_Mod_shouldOf_17 7 (by decide) 19 rfl ?_
    refine z_iadd d_Mod_shouldOf_19 20 rfl ?_
    refine z_iaload d_Mod_shouldOf_20 (((186 + (8 * j)) + 7)) 21 rfl wm_47 (by show ((nI 186 + (nI 8 * nI j)) + nI 7) = _; simp only [pk_mul, nI_add]) (by omega) (by decide) ?_
    refine z_icmp_ge d_Mod_shouldOf_21 43 24 (by decide) rfl (fun h => absurd h (by rw [(hr j hj).1]; have := (hr j hj).2; exact nI_ge hq (by omega))) (fun h2 => ?_)
    refine z_iload_n d_Mod_shouldOf_24 rfl 25 rfl ?_
    refine z_aload_n d_Mod_shouldOf_25 rfl 26 rfl ?_
    refine z_get d_Mod_shouldOf_26 29 rfl fl_Mod_13_11 wm_45 rfl ?_
    refine z_sipush d_Mod_shouldOf_29 254 (by decide) 32 rfl ?_
    refine z_iload_n d_Mod_shouldOf_32 rfl 33 rfl ?_
    refine z_iadd d_Mod_shouldOf_33 34 rfl ?_
    refine z_iaload d_Mod_shouldOf_34 ((254 + q)) 35 rfl wm_47 (by show (nI 254 + nI q) = _; simp only [pk_mul, nI_add]) (by omega) (by decide) ?_
    refine z_iadd d_Mod_shouldOf_35 36 rfl ?_
    refine z_istore_n d_Mod_shouldOf_36 37 rfl (by decide) rfl ?_
    refine z_iinc d_Mod_shouldOf_37 1 (by decide) 40 rfl rfl (by decide) rfl ?_
    refine z_goto d_Mod_shouldOf_40 4 (by decide) ?_
    exact z_L _ (by simp [nI_succ, sm]) ih
set_option maxHeartbeats 400000 in
theorem r_Mod_should {K : zKK} {rf s im mt rd sc : Nat → Int32} {tl : List zC} (hr : RG s) (l : Int32) : Ret 2 0 0 m_Mod_should [.ref 45, .int l] (wld K (rf, s, im, mt, rd, sc) tl) (some (.int ((if inR l 6 = true then shV s (ix l) else -1)))) (wld K ((if inR l 6 = true then rf else rfu rf 1), s, im, mt, rd, sc) tl) := by
  refine Ret.of (n := 0) (by decide) (rfl) rfl (fun X => ?_)
  refine z_iload_n d_Mod_should_0 rfl 1 rfl ?_
  refine z_invs d_Mod_should_1 4 rfl hm_Mod_isLaw lk_Mod_79 st_Mod_isLaw (r_Mod_isLaw _) rfl rfl (by decide) rfl rfl (Nat.le_of_ble_eq_true rfl) ?_
  refine z_if_eq d_Mod_should_4 15 7 (by decide) rfl (fun h1 => ?_) (fun h1 => ?_)
  · refine z_aload_n d_Mod_should_15 rfl 16 rfl ?_
    refine z_iconst d_Mod_should_16 (-1) (by decide) 17 rfl ?_
    refine z_invv d_Mod_should_17 20 rfl hm_Mod_refuse lk_Mod_29 im_Mod_refuse sl_Mod_Mod_refuse rfl wm_45 (r_Mod_refuse (-1) 1 (by decide) (by decide)) rfl rfl (by decide) rfl rfl (Nat.le_of_ble_eq_true rfl) ?_
    exact z_ireturn d_Mod_should_20 (by simp_all [zb_eq, zb_ne, ← Int32.not_le]) (by simp_all [zb_eq, zb_ne, rfu, ← Int32.not_le])
  · obtain ⟨i2, hi2, rfl⟩ := vld h1 (n := 6) rfl (by decide)
    have hci2 : (nI i2).toNatClampNeg = i2 := nI_clamp (by omega)
    refine z_aload_n d_Mod_should_7 rfl 8 rfl ?_
    refine z_iload_n d_Mod_should_8 rfl 9 rfl ?_
    refine z_invv d_Mod_should_9 12 rfl hm_Mod_shouldOf lk_Mod_115 im_Mod_shouldOf sl_Mod_Mod_shouldOf rfl wm_45 (r_Mod_shouldOf hr _ (i2) rfl (by omega)) rfl rfl (by decide) rfl rfl (Nat.le_of_ble_eq_true rfl) ?_
    refine z_goto d_Mod_should_12 20 (by decide) ?_
    exact z_ireturn d_Mod_should_20 (by simp_all [zb_eq, zb_ne, ← Int32.not_le]) (by simp_all [zb_eq, zb_ne, rfu, ← Int32.not_le])
set_option maxHeartbeats 400000 in
theorem r_Mod_beyond {K : zKK} {rf s im mt rd sc : Nat → Int32} {tl : List zC} {n : Nat} (hn : s 0 = nI n) (hn30 : n ≤ 30) (hz0 : NZ s n) (hr : RG s) (l m : Int32) : Ret 5 0 0 m_Mod_beyond [.ref 45, .int l, .int m] (wld K (rf, s, im, mt, rd, sc) tl) (some (.int ((if inR l 6 = true then (if m < 1 then 1000000004 else (if 999 < m then 1000000006 else seenV s n (ix l) * m - shV s (ix l))) else 1000000001)))) (wld K ((if inR l 6 = true then (if m < 1 then rfu rf 4 else (if 999 < m then rfu rf 6 else rf)) else rfu rf 1), s, im, mt, rd, sc) tl) := by
  refine Ret.of (n := 1) (by decide) (rfl) rfl (fun X => ?_)
  refine z_iload_n d_Mod_beyond_0 rfl 1 rfl ?_
  refine z_invs d_Mod_beyond_1 4 rfl hm_Mod_isLaw lk_Mod_79 st_Mod_isLaw (r_Mod_isLaw _) rfl rfl (by decide) rfl rfl (Nat.le_of_ble_eq_true rfl) ?_
  refine z_if_eq d_Mod_beyond_4 18 7 (by decide) rfl (fun h1 => ?_) (fun h1 => ?_)
  · refine z_iconst d_Mod_beyond_18 (-1) (by decide) 19 rfl ?_
    refine z_istore_n d_Mod_beyond_19 20 rfl (by decide) rfl ?_
    refine z_iload_n d_Mod_beyond_20 rfl 21 rfl ?_
    refine z_if_eq d_Mod_beyond_21 35 24 (by decide) rfl (fun h => absurd h (by decide)) (fun h2 => ?_)
    refine z_ldc d_Mod_beyond_24 kn_Mod_102 26 rfl ?_
    refine z_aload_n d_Mod_beyond_26 rfl 27 rfl ?_
    refine z_iload_n d_Mod_beyond_27 rfl 28 rfl ?_
    refine z_invv d_Mod_beyond_28 31 rfl hm_Mod_refuse lk_Mod_29 im_Mod_refuse sl_Mod_Mod_refuse rfl wm_45 (r_Mod_refuse (-1) 1 (by decide) (by decide)) rfl rfl (by decide) rfl rfl (Nat.le_of_ble_eq_true rfl) ?_
    refine z_isub d_Mod_beyond_31 32 rfl ?_
    refine z_goto d_Mod_beyond_32 48 (by decide) ?_
    exact z_ireturn d_Mod_beyond_48 (by simp_all [zb_eq, zb_ne, ← Int32.not_le]) (by simp_all [zb_eq, zb_ne, rfu, ← Int32.not_le])
  · obtain ⟨i3, hi3, rfl⟩ := vld h1 (n := 6) rfl (by decide)
    have hci3 : (nI i3).toNatClampNeg = i3 := nI_clamp (by omega)
    refine z_iload_n d_Mod_beyond_7 rfl 8 rfl ?_
    refine z_iconst d_Mod_beyond_8 1 (by decide) 9 rfl ?_
    refine z_sipush d_Mod_beyond_9 999 (by decide) 12 rfl ?_
    rcases wi_cases (m) (1) (999) with hw | ⟨hw, hv⟩ | ⟨hw, hv⟩
    · refine z_invs d_Mod_beyond_12 15 rfl hm_Mod_within lk_Mod_82 st_Mod_within (r_Mod_within_1 _ _ _ hw) rfl rfl (by decide) rfl rfl (Nat.le_of_ble_eq_true rfl) ?_
      refine z_goto d_Mod_beyond_15 19 (by decide) ?_
      refine z_istore_n d_Mod_beyond_19 20 rfl (by decide) rfl ?_
      refine z_iload_n d_Mod_beyond_20 rfl 21 rfl ?_
      refine z_if_eq d_Mod_beyond_21 35 24 (by decide) rfl (fun h => absurd h (by decide)) (fun h4 => ?_)
      refine z_ldc d_Mod_beyond_24 kn_Mod_102 26 rfl ?_
      refine z_aload_n d_Mod_beyond_26 rfl 27 rfl ?_
      refine z_iload_n d_Mod_beyond_27 rfl 28 rfl ?_
      refine z_invv d_Mod_beyond_28 31 rfl hm_Mod_refuse lk_Mod_29 im_Mod_refuse sl_Mod_Mod_refuse rfl wm_45 (r_Mod_refuse (-4) 4 (by decide) (by decide)) rfl rfl (by decide) rfl rfl (Nat.le_of_ble_eq_true rfl) ?_
      refine z_isub d_Mod_beyond_31 32 rfl ?_
      refine z_goto d_Mod_beyond_32 48 (by decide) ?_
      exact z_ireturn d_Mod_beyond_48 (by simp_all [zb_eq, zb_ne, ← Int32.not_le]) (by simp_all [zb_eq, zb_ne, rfu, ← Int32.not_le])
    · refine z_invs d_Mod_beyond_12 15 rfl hm_Mod_within lk_Mod_82 st_Mod_within (r_Mod_within_2 _ _ _ hw hv) rfl rfl (by decide) rfl rfl (Nat.le_of_ble_eq_true rfl) ?_
      refine z_goto d_Mod_beyond_15 19 (by decide) ?_
      refine z_istore_n d_Mod_beyond_19 20 rfl (by decide) rfl ?_
      refine z_iload_n d_Mod_beyond_20 rfl 21 rfl ?_
      refine z_if_eq d_Mod_beyond_21 35 24 (by decide) rfl (fun h => absurd h (by decide)) (fun h5 => ?_)
      refine z_ldc d_Mod_beyond_24 kn_Mod_102 26 rfl ?_
      refine z_aload_n d_Mod_beyond_26 rfl 27 rfl ?_
      refine z_iload_n d_Mod_beyond_27 rfl 28 rfl ?_
      refine z_invv d_Mod_beyond_28 31 rfl hm_Mod_refuse lk_Mod_29 im_Mod_refuse sl_Mod_Mod_refuse rfl wm_45 (r_Mod_refuse (-6) 6 (by decide) (by decide)) rfl rfl (by decide) rfl rfl (Nat.le_of_ble_eq_true rfl) ?_
      refine z_isub d_Mod_beyond_31 32 rfl ?_
      refine z_goto d_Mod_beyond_32 48 (by decide) ?_
      exact z_ireturn d_Mod_beyond_48 (by simp_all [zb_eq, zb_ne, ← Int32.not_le]) (by simp_all [zb_eq, zb_ne, rfu, ← Int32.not_le])
    · refine z_invs d_Mod_beyond_12 15 rfl hm_Mod_within lk_Mod_82 st_Mod_within (r_Mod_within_3 _ _ _ hw hv) rfl rfl (by decide) rfl rfl (Nat.le_of_ble_eq_true rfl) ?_
      refine z_goto d_Mod_beyond_15 19 (by decide) ?_
      refine z_istore_n d_Mod_beyond_19 20 rfl (by decide) rfl ?_
      refine z_iload_n d_Mod_beyond_20 rfl 21 rfl ?_
      refine z_if_eq d_Mod_beyond_21 35 24 (by decide) rfl (fun h6 => ?_) (fun h => absurd (by decide) h)
      refine z_aload_n d_Mod_beyond_35 rfl 36 rfl ?_
      refine z_iload_n d_Mod_beyond_36 rfl 37 rfl ?_
      refine z_invv d_Mod_beyond_37 40 rfl hm_Mod_seenOf lk_Mod_118 im_Mod_seenOf sl_Mod_Mod_seenOf rfl wm_45 (r_Mod_seenOf hn hn30 hz0 _ (i3) rfl (by omega)) rfl rfl (by decide) rfl rfl (Nat.le_of_ble_eq_true rfl) ?_
      refine z_iload_n d_Mod_beyond_40 rfl 41 rfl ?_
      refine z_imul d_Mod_beyond_41 42 rfl ?_
      refine z_aload_n d_Mod_beyond_42 rfl 43 rfl ?_
      refine z_iload_n d_Mod_beyond_43 rfl 44 rfl ?_
      refine z_invv d_Mod_beyond_44 47 rfl hm_Mod_shouldOf lk_Mod_115 im_Mod_shouldOf sl_Mod_Mod_shouldOf rfl wm_45 (r_Mod_shouldOf hr _ (i3) rfl (by omega)) rfl rfl (by decide) rfl rfl (Nat.le_of_ble_eq_true rfl) ?_
      refine z_isub d_Mod_beyond_47 48 rfl ?_
      exact z_ireturn d_Mod_beyond_48 (by simp_all [zb_eq, zb_ne, ← Int32.not_le]) (by simp_all [zb_eq, zb_ne, rfu, ← Int32.not_le])
set_option maxHeartbeats 400000 in
theorem r_Mod_only {K : zKK} {rf s im mt rd sc : Nat → Int32} {tl : List zC} {n : Nat} (hn : s 0 = nI n) (hn30 : n ≤ 30) (hz0 : NZ s n) (l : Int32) : Ret 5 0 0 m_Mod_only [.ref 45, .int l] (wld K (rf, s, im, mt, rd, sc) tl) (some (.int ((if inR l 6 = true then sm (fun t => if lwTo s t 6 = 1 <<< (l &&& 31) then 1 else 0) n else -1)))) (wld K ((if inR l 6 = true then rf else rfu rf 1), s, im, mt, rd, sc) tl) := by
  refine Ret.of (n := 2) (by decide) (rfl) rfl (fun X => ?_)
  refine z_iload_n d_Mod_only_0 rfl 1 rfl ?_
  refine z_invs d_Mod_only_1 4 rfl hm_Mod_isLaw lk_Mod_79 st_Mod_isLaw (r_Mod_isLaw _) rfl rfl (by decide) rfl rfl (Nat.le_of_ble_eq_true rfl) ?_
  refine z_if_ne d_Mod_only_4 13 7 (by decide) rfl (fun h1 => ?_) (fun h1 => ?_)
  · obtain ⟨i2, hi2, rfl⟩ := vld h1 (n := 6) rfl (by decide)
    have hci2 : (nI i2).toNatClampNeg = i2 := nI_clamp (by omega)
    refine z_iconst d_Mod_only_13 0 (by decide) 14 rfl ?_
    refine z_istore_n d_Mod_only_14 15 rfl (by decide) rfl ?_
    refine z_iconst d_Mod_only_15 0 (by decide) 16 rfl ?_
    refine z_istore_n d_Mod_only_16 17 rfl (by decide) rfl ?_
    refine zloop (fun t => Z X m_Mod_only 5 0 0 (some (.int ((if inR (nI i2) 6 = true then sm (fun t => if lwTo s t 6 = 1 <<< ((nI i2) &&& 31) then 1 else 0) n else -1)))) (wld K ((if inR (nI i2) 6 = true then rf else rfu rf 1), s, im, mt, rd, sc) tl) 17 [some (.ref 45), some (.int (nI i2)), some (.int (sm (fun t => if lwTo s t 6 = 1 <<< (nI i2 &&& 31) then 1 else 0) t)), some (.int (nI t))] [] (wld K (rf, s, im, mt, rd, sc) tl)) (n) ?_ ?_ 0 (Nat.zero_le _)
    · refine z_iload_n d_Mod_only_17 rfl 18 rfl ?_
      refine z_aload_n d_Mod_only_18 rfl 19 rfl ?_
      refine z_get d_Mod_only_19 22 rfl fl_Mod_13_11 wm_45 rfl ?_
      refine z_iconst d_Mod_only_22 0 (by decide) 23 rfl ?_
      refine z_iaload d_Mod_only_23 (0) 24 rfl wm_47 (rfl) (by omega) (by decide) ?_
      refine z_icmp_ge d_Mod_only_24 52 27 (by decide) rfl (fun h3 => ?_) (fun h => absurd (by rw [hn]; exact Int32.le_refl _) h)
      refine z_iload_n d_Mod_only_52 rfl 53 rfl ?_
      exact z_ireturn d_Mod_only_53 (by simp_all [zb_eq, zb_ne]) (by simp_all [zb_eq, zb_ne, rfu, ← Int32.not_le])
    · intro t ht ih
      refine z_iload_n d_Mod_only_17 rfl 18 rfl ?_
      refine z_aload_n d_Mod_only_18 rfl 19 rfl ?_
      refine z_get d_Mod_only_19 22 rfl fl_Mod_13_11 wm_45 rfl ?_
      refine z_iconst d_Mod_only_22 0 (by decide) 23 rfl ?_
      refine z_iaload d_Mod_only_23 (0) 24 rfl wm_47 (rfl) (by omega) (by decide) ?_
      refine z_icmp_ge d_Mod_only_24 52 27 (by decide) rfl (fun h => absurd h (by rw [hn]; exact nI_ge ht (by omega))) (fun h4 => ?_)
      refine z_iload_n d_Mod_only_27 rfl 28 rfl ?_
      refine z_aload_n d_Mod_only_28 rfl 29 rfl ?_
      refine z_iload_n d_Mod_only_29 rfl 30 rfl ?_
      refine z_invv d_Mod_only_30 33 rfl hm_Mod_lawsOf lk_Mod_106 im_Mod_lawsOf sl_Mod_Mod_lawsOf rfl wm_45 (r_Mod_lawsOf _ (t) rfl (by omega) (hz0 _ (by omega))) rfl rfl (by decide) rfl rfl (Nat.le_of_ble_eq_true rfl) ?_
      refine z_iconst d_Mod_only_33 1 (by decide) 34 rfl ?_
      refine z_iload_n d_Mod_only_34 rfl 35 rfl ?_
      refine z_ishl d_Mod_only_35 36 rfl ?_
      refine z_icmp_ne d_Mod_only_36 43 39 (by decide) rfl (fun h5 => ?_) (fun h5 => ?_)
      · refine z_iconst d_Mod_only_43 0 (by decide) 44 rfl ?_
        refine z_iadd d_Mod_only_44 45 rfl ?_
        refine z_istore_n d_Mod_only_45 46 rfl (by decide) rfl ?_
        refine z_iinc d_Mod_only_46 1 (by decide) 49 rfl rfl (by decide) rfl ?_
        refine z_goto d_Mod_only_49 17 (by decide) ?_
        exact z_L _ (by simp_all [List.set, nI_succ, sm, zb_eq, zb_ne]) ih
      · refine z_iconst d_Mod_only_39 1 (by decide) 40 rfl ?_
        refine z_goto d_Mod_only_40 44 (by decide) ?_
        refine z_iadd d_Mod_only_44 45 rfl ?_
        refine z_istore_n d_Mod_only_45 46 rfl (by decide) rfl ?_
        refine z_iinc d_Mod_only_46 1 (by decide) 49 rfl rfl (by decide) rfl ?_
        refine z_goto d_Mod_only_49 17 (by decide) ?_
        exact z_L _ (by simp_all [List.set, nI_succ, sm, zb_eq, zb_ne]) ih
  · refine z_aload_n d_Mod_only_7 rfl 8 rfl ?_
    refine z_iconst d_Mod_only_8 (-1) (by decide) 9 rfl ?_
    refine z_invv d_Mod_only_9 12 rfl hm_Mod_refuse lk_Mod_29 im_Mod_refuse sl_Mod_Mod_refuse rfl wm_45 (r_Mod_refuse (-1) 1 (by decide) (by decide)) rfl rfl (by decide) rfl rfl (Nat.le_of_ble_eq_true rfl) ?_
    exact z_ireturn d_Mod_only_12 (by simp_all [zb_eq, zb_ne, ← Int32.not_le]) (by simp_all [zb_eq, zb_ne, rfu, ← Int32.not_le])
set_option maxHeartbeats 400000 in
theorem r_Mod_pictures {K : zKK} {rf s im mt rd sc : Nat → Int32} {tl : List zC} {n : Nat} (hn : s 0 = nI n) (hn30 : n ≤ 30) (hz0 : NZ s n) (l : Int32) : Ret 5 0 0 m_Mod_pictures [.ref 45, .int l] (wld K (rf, s, im, mt, rd, sc) tl) (some (.int ((if inR l 6 = true then sm (fun t => if mkd (s (6 + 6 * t + 3)) 7 = true then (if lwTo s t 6 = 1 <<< (l &&& 31) then 1 else 0) else 0) n else -1)))) (wld K ((if inR l 6 = true then rf else rfu rf 1), s, im, mt, rd, sc) tl) := by
  refine Ret.of (n := 2) (by decide) (rfl) rfl (fun X => ?_)
  refine z_iload_n d_Mod_pictures_0 rfl 1 rfl ?_
  refine z_invs d_Mod_pictures_1 4 rfl hm_Mod_isLaw lk_Mod_79 st_Mod_isLaw (r_Mod_isLaw _) rfl rfl (by decide) rfl rfl (Nat.le_of_ble_eq_true rfl) ?_
  refine z_if_ne d_Mod_pictures_4 13 7 (by decide) rfl (fun h1 => ?_) (fun h1 => ?_)
  · obtain ⟨i2, hi2, rfl⟩ := vld h1 (n := 6) rfl (by decide)
    have hci2 : (nI i2).toNatClampNeg = i2 := nI_clamp (by omega)
    refine z_iconst d_Mod_pictures_13 0 (by decide) 14 rfl ?_
    refine z_istore_n d_Mod_pictures_14 15 rfl (by decide) rfl ?_
    refine z_iconst d_Mod_pictures_15 0 (by decide) 16 rfl ?_
    refine z_istore_n d_Mod_pictures_16 17 rfl (by decide) rfl ?_
    refine zloop (fun t => Z X m_Mod_pictures 5 0 0 (some (.int ((if inR (nI i2) 6 = true then sm (fun t => if mkd (s (6 + 6 * t + 3)) 7 = true then (if lwTo s t 6 = 1 <<< ((nI i2) &&& 31) then 1 else 0) else 0) n else -1)))) (wld K ((if inR (nI i2) 6 = true then rf else rfu rf 1), s, im, mt, rd, sc) tl) 17 [some (.ref 45), some (.int (nI i2)), some (.int (sm (fun t => if mkd (s (6 + 6 * t + 3)) 7 = true then (if lwTo s t 6 = 1 <<< (nI i2 &&& 31) then 1 else 0) else 0) t)), some (.int (nI t))] [] (wld K (rf, s, im, mt, rd, sc) tl)) (n) ?_ ?_ 0 (Nat.zero_le _)
    · refine z_iload_n d_Mod_pictures_17 rfl 18 rfl ?_
      refine z_aload_n d_Mod_pictures_18 rfl 19 rfl ?_
      refine z_get d_Mod_pictures_19 22 rfl fl_Mod_13_11 wm_45 rfl ?_
      refine z_iconst d_Mod_pictures_22 0 (by decide) 23 rfl ?_
      refine z_iaload d_Mod_pictures_23 (0) 24 rfl wm_47 (rfl) (by omega) (by decide) ?_
      refine z_icmp_ge d_Mod_pictures_24 62 27 (by decide) rfl (fun h3 => ?_) (fun h => absurd (by rw [hn]; exact Int32.le_refl _) h)
      refine z_iload_n d_Mod_pictures_62 rfl 63 rfl ?_
      exact z_ireturn d_Mod_pictures_63 (by simp_all [zb_eq, zb_ne]) (by simp_all [zb_eq, zb_ne, rfu, ← Int32.not_le])
    · intro t ht ih
      refine z_iload_n d_Mod_pictures_17 rfl 18 rfl ?_
      refine z_aload_n d_Mod_pictures_18 rfl 19 rfl ?_
      refine z_get d_Mod_pictures_19 22 rfl fl_Mod_13_11 wm_45 rfl ?_
      refine z_iconst d_Mod_pictures_22 0 (by decide) 23 rfl ?_
      refine z_iaload d_Mod_pictures_23 (0) 24 rfl wm_47 (rfl) (by omega) (by decide) ?_
      refine z_icmp_ge d_Mod_pictures_24 62 27 (by decide) rfl (fun h => absurd h (by rw [hn]; exact nI_ge ht (by omega))) (fun h4 => ?_)
      refine z_iload_n d_Mod_pictures_27 rfl 28 rfl ?_
      refine z_aload_n d_Mod_pictures_28 rfl 29 rfl ?_
      refine z_iload_n d_Mod_pictures_29 rfl 30 rfl ?_
      refine z_bipush d_Mod_pictures_30 7 (by decide) 32 rfl ?_
      refine z_invv d_Mod_pictures_32 35 rfl hm_Mod_isMarked lk_Mod_70 im_Mod_isMarked sl_Mod_Mod_isMarked rfl wm_45 (r_Mod_isMarked _ _ (t) rfl (by omega)) rfl rfl (by decide) rfl rfl (Nat.le_of_ble_eq_true rfl) ?_
      refine z_if_eq d_Mod_pictures_35 53 38 (by decide) rfl (fun h5 => ?_) (fun h5 => ?_)
      · refine z_iconst d_Mod_pictures_53 0 (by decide) 54 rfl ?_
        refine z_iadd d_Mod_pictures_54 55 rfl ?_
        refine z_istore_n d_Mod_pictures_55 56 rfl (by decide) rfl ?_
        refine z_iinc d_Mod_pictures_56 1 (by decide) 59 rfl rfl (by decide) rfl ?_
        refine z_goto d_Mod_pictures_59 17 (by decide) ?_
        exact z_L _ (by simp_all [List.set, nI_succ, sm, zb_eq, zb_ne]) ih
      · refine z_aload_n d_Mod_pictures_38 rfl 39 rfl ?_
        refine z_iload_n d_Mod_pictures_39 rfl 40 rfl ?_
        refine z_invv d_Mod_pictures_40 43 rfl hm_Mod_lawsOf lk_Mod_106 im_Mod_lawsOf sl_Mod_Mod_lawsOf rfl wm_45 (r_Mod_lawsOf _ (t) rfl (by omega) (hz0 _ (by omega))) rfl rfl (by decide) rfl rfl (Nat.le_of_ble_eq_true rfl) ?_
        refine z_iconst d_Mod_pictures_43 1 (by decide) 44 rfl ?_
        refine z_iload_n d_Mod_pictures_44 rfl 45 rfl ?_
        refine z_ishl d_Mod_pictures_45 46 rfl ?_
        refine z_icmp_ne d_Mod_pictures_46 53 49 (by decide) rfl (fun h6 => ?_) (fun h6 => ?_)
        · refine z_iconst d_Mod_pictures_53 0 (by decide) 54 rfl ?_
          refine z_iadd d_Mod_pictures_54 55 rfl ?_
          refine z_istore_n d_Mod_pictures_55 56 rfl (by decide) rfl ?_
          refine z_iinc d_Mod_pictures_56 1 (by decide) 59 rfl rfl (by decide) rfl ?_
          refine z_goto d_Mod_pictures_59 17 (by decide) ?_
          exact z_L _ (by simp_all [List.set, nI_succ, sm, zb_eq, zb_ne]) ih
        · refine z_iconst d_Mod_pictures_49 1 (by decide) 50 rfl ?_
          refine z_goto d_Mod_pictures_50 54 (by decide) ?_
          refine z_iadd d_Mod_pictures_54 55 rfl ?_
          refine z_istore_n d_Mod_pictures_55 56 rfl (by decide) rfl ?_
          refine z_iinc d_Mod_pictures_56 1 (by decide) 59 rfl rfl (by decide) rfl ?_
          refine z_goto d_Mod_pictures_59 17 (by decide) ?_
          exact z_L _ (by simp_all [List.set, nI_succ, sm, zb_eq, zb_ne]) ih
  · refine z_aload_n d_Mod_pictures_7 rfl 8 rfl ?_
    refine z_iconst d_Mod_pictures_8 (-1) (by decide) 9 rfl ?_
    refine z_invv d_Mod_pictures_9 12 rfl hm_Mod_refuse lk_Mod_29 im_Mod_refuse sl_Mod_Mod_refuse rfl wm_45 (r_Mod_refuse (-1) 1 (by decide) (by decide)) rfl rfl (by decide) rfl rfl (Nat.le_of_ble_eq_true rfl) ?_
    exact z_ireturn d_Mod_pictures_12 (by simp_all [zb_eq, zb_ne, ← Int32.not_le]) (by simp_all [zb_eq, zb_ne, rfu, ← Int32.not_le])
set_option maxHeartbeats 400000 in
theorem r_Mod_barred {K : zKK} {rf s im mt rd sc : Nat → Int32} {tl : List zC} (c : Int32) : Ret 1 0 0 m_Mod_barred [.ref 45, .int c] (wld K (rf, s, im, mt, rd, sc) tl) (some (.int ((if inR c 256 = true then brV s c 6 else -1)))) (wld K ((if inR c 256 = true then rf else rfu rf 1), s, im, mt, rd, sc) tl) := by
  refine Ret.of (n := 2) (by decide) (rfl) rfl (fun X => ?_)
  refine z_iload_n d_Mod_barred_0 rfl 1 rfl ?_
  refine z_sipush d_Mod_barred_1 256 (by decide) 4 rfl ?_
  refine z_invs d_Mod_barred_4 7 rfl hm_Mod_isIn lk_Mod_25 st_Mod_isIn (r_Mod_isIn _ _) rfl rfl (by decide) rfl rfl (Nat.le_of_ble_eq_true rfl) ?_
  refine z_if_ne d_Mod_barred_7 16 10 (by decide) rfl (fun h1 => ?_) (fun h1 => ?_)
  · obtain ⟨i2, hi2, rfl⟩ := vld h1 (n := 256) rfl (by decide)
    have hci2 : (nI i2).toNatClampNeg = i2 := nI_clamp (by omega)
    refine z_iconst d_Mod_barred_16 0 (by decide) 17 rfl ?_
    refine z_istore_n d_Mod_barred_17 18 rfl (by decide) rfl ?_
    refine z_iconst d_Mod_barred_18 0 (by decide) 19 rfl ?_
    refine z_istore_n d_Mod_barred_19 20 rfl (by decide) rfl ?_
    refine zloop (fun t => Z X m_Mod_barred 1 0 0 (some (.int ((if inR (nI i2) 256 = true then brV s (nI i2) 6 else -1)))) (wld K ((if inR (nI i2) 256 = true then rf else rfu rf 1), s, im, mt, rd, sc) tl) 20 [some (.ref 45), some (.int (nI i2)), some (.int (brV s (nI i2) t)), some (.int (nI t))] [] (wld K (rf, s, im, mt, rd, sc) tl)) (6) ?_ ?_ 0 (Nat.zero_le _)
    · refine z_iload_n d_Mod_barred_20 rfl 21 rfl ?_
      refine z_bipush d_Mod_barred_21 6 (by decide) 23 rfl ?_
      refine z_icmp_ge d_Mod_barred_23 64 26 (by decide) rfl (fun h3 => ?_) (fun h => absurd (by decide) h)
      refine z_iload_n d_Mod_barred_64 rfl 65 rfl ?_
      exact z_ireturn d_Mod_barred_65 (by simp_all [zb_eq, zb_ne]) (by simp_all [zb_eq, zb_ne, rfu, ← Int32.not_le])
    · intro t ht ih
      refine z_iload_n d_Mod_barred_20 rfl 21 rfl ?_
      refine z_bipush d_Mod_barred_21 6 (by decide) 23 rfl ?_
      refine z_icmp_ge d_Mod_barred_23 64 26 (by decide) rfl (fun h => absurd h (show ¬ nI 6 ≤ nI t from nI_ge ht (by decide))) (fun h4 => ?_)
      refine z_iload_n d_Mod_barred_26 rfl 27 rfl ?_
      refine z_iload_n d_Mod_barred_27 rfl 28 rfl ?_
      refine z_aload_n d_Mod_barred_28 rfl 29 rfl ?_
      refine z_get d_Mod_barred_29 32 rfl fl_Mod_13_11 wm_45 rfl ?_
      refine z_sipush d_Mod_barred_32 186 (by decide) 35 rfl ?_
      refine z_bipush d_Mod_barred_35 8 (by decide) 37 rfl ?_
      refine z_iload_n d_Mod_barred_37 rfl 38 rfl ?_
      refine z_imul d_Mod_barred_38 39 rfl ?_
      refine z_iadd d_Mod_barred_39 40 rfl ?_
      refine z_iconst d_Mod_barred_40 4 (by decide) 41 rfl ?_
      refine z_iadd d_Mod_barred_41 42 rfl ?_
      refine z_iaload d_Mod_barred_42 (((186 + (8 * t)) + 4)) 43 rfl wm_47 (by show ((nI 186 + (nI 8 * nI t)) + nI 4) = _; simp only [pk_mul, nI_add]) (by omega) (by decide) ?_
      refine z_iconst d_Mod_barred_43 (-1) (by decide) 44 rfl ?_
      refine z_ixor d_Mod_barred_44 45 rfl ?_
      refine z_iand d_Mod_barred_45 46 rfl ?_
      refine z_if_eq d_Mod_barred_46 55 49 (by decide) rfl (fun h5 => ?_) (fun h5 => ?_)
      · refine z_iconst d_Mod_barred_55 0 (by decide) 56 rfl ?_
        refine z_ior d_Mod_barred_56 57 rfl ?_
        refine z_istore_n d_Mod_barred_57 58 rfl (by decide) rfl ?_
        refine z_iinc d_Mod_barred_58 1 (by decide) 61 rfl rfl (by decide) rfl ?_
        refine z_goto d_Mod_barred_61 20 (by decide) ?_
        exact z_L _ (by simp_all [nI_succ, brV]) ih
      · refine z_iconst d_Mod_barred_49 1 (by decide) 50 rfl ?_
        refine z_iload_n d_Mod_barred_50 rfl 51 rfl ?_
        refine z_ishl d_Mod_barred_51 52 rfl ?_
        refine z_goto d_Mod_barred_52 56 (by decide) ?_
        refine z_ior d_Mod_barred_56 57 rfl ?_
        refine z_istore_n d_Mod_barred_57 58 rfl (by decide) rfl ?_
        refine z_iinc d_Mod_barred_58 1 (by decide) 61 rfl rfl (by decide) rfl ?_
        refine z_goto d_Mod_barred_61 20 (by decide) ?_
        exact z_L _ (by simp_all [nI_succ, brV]) ih
  · refine z_aload_n d_Mod_barred_10 rfl 11 rfl ?_
    refine z_iconst d_Mod_barred_11 (-1) (by decide) 12 rfl ?_
    refine z_invv d_Mod_barred_12 15 rfl hm_Mod_refuse lk_Mod_29 im_Mod_refuse sl_Mod_Mod_refuse rfl wm_45 (r_Mod_refuse (-1) 1 (by decide) (by decide)) rfl rfl (by decide) rfl rfl (Nat.le_of_ble_eq_true rfl) ?_
    exact z_ireturn d_Mod_barred_15 (by simp_all [zb_eq, zb_ne, ← Int32.not_le]) (by simp_all [zb_eq, zb_ne, rfu, ← Int32.not_le])
set_option maxHeartbeats 400000 in
theorem r_Mod_hasLine_0 {K : zKK} {rf s im mt rd sc : Nat → Int32} {tl : List zC} (t : Int32) (i : Nat) (ht : t = nI i) (hi : i < 30) : Ret 2 0 0 m_Mod_hasLine [.ref 45, .int t, .int 0] (wld K (rf, s, im, mt, rd, sc) tl) (some (.int (zb (decide (s (6 + 6 * i + 0) < 0) || decide (s (6 + 6 * i + 0) ≤ s (264 + 0)))))) (wld K (rf, s, im, mt, rd, sc) tl) := by
  subst ht
  refine Ret.of (n := 1) (by decide) (zb_nar _) rfl (fun X => ?_)
  refine z_iload_n d_Mod_hasLine_0 rfl 1 rfl ?_
  refine z_iconst d_Mod_hasLine_1 2 (by decide) 2 rfl ?_
  refine z_icmp_le d_Mod_hasLine_2 40 5 (by decide) rfl (fun h1 => ?_) (fun h => absurd (by decide) h)
  refine z_aload_n d_Mod_hasLine_40 rfl 41 rfl ?_
  refine z_iload_n d_Mod_hasLine_41 rfl 42 rfl ?_
  refine z_iload_n d_Mod_hasLine_42 rfl 43 rfl ?_
  refine z_invv d_Mod_hasLine_43 46 rfl hm_Mod_get lk_Mod_66 im_Mod_get sl_Mod_Mod_get rfl wm_45 (r_Mod_get _ _ (i) (0) rfl rfl (by omega)) rfl rfl (by decide) rfl rfl (Nat.le_of_ble_eq_true rfl) ?_
  refine z_istore_n d_Mod_hasLine_46 47 rfl (by decide) rfl ?_
  refine z_iload_n d_Mod_hasLine_47 rfl 48 rfl ?_
  refine z_if_lt d_Mod_hasLine_48 85 51 (by decide) rfl (fun h2 => ?_) (fun h2 => ?_)
  · refine z_iconst d_Mod_hasLine_85 1 (by decide) 86 rfl ?_
    refine z_goto d_Mod_hasLine_86 90 (by decide) ?_
    exact z_ireturn d_Mod_hasLine_90 (by simp_all [zb, zb_eq, zb_ne, ← Int32.not_le]) (rfl)
  · refine z_iload_n d_Mod_hasLine_51 rfl 52 rfl ?_
    refine z_iconst d_Mod_hasLine_52 2 (by decide) 53 rfl ?_
    refine z_icmp_ne d_Mod_hasLine_53 71 56 (by decide) rfl (fun h3 => ?_) (fun h => absurd h (by decide))
    refine z_aload_n d_Mod_hasLine_71 rfl 72 rfl ?_
    refine z_get d_Mod_hasLine_72 75 rfl fl_Mod_13_11 wm_45 rfl ?_
    refine z_sipush d_Mod_hasLine_75 264 (by decide) 78 rfl ?_
    refine z_iload_n d_Mod_hasLine_78 rfl 79 rfl ?_
    refine z_iadd d_Mod_hasLine_79 80 rfl ?_
    refine z_iaload d_Mod_hasLine_80 ((264 + 0)) 81 rfl wm_47 (by show (nI 264 + nI 0) = _; simp only [pk_mul, nI_add]) (by omega) (by decide) ?_
    refine z_iload_n d_Mod_hasLine_81 rfl 82 rfl ?_
    refine z_icmp_lt d_Mod_hasLine_82 89 85 (by decide) rfl (fun h4 => ?_) (fun h4 => ?_)
    · refine z_iconst d_Mod_hasLine_89 0 (by decide) 90 rfl ?_
      exact z_ireturn d_Mod_hasLine_90 (by simp_all [zb, zb_eq, zb_ne, ← Int32.not_le]) (rfl)
    · refine z_iconst d_Mod_hasLine_85 1 (by decide) 86 rfl ?_
      refine z_goto d_Mod_hasLine_86 90 (by decide) ?_
      exact z_ireturn d_Mod_hasLine_90 (by simp_all [zb, zb_eq, zb_ne, ← Int32.not_le]) (rfl)
set_option maxHeartbeats 400000 in
theorem r_Mod_hasLine_1 {K : zKK} {rf s im mt rd sc : Nat → Int32} {tl : List zC} (t : Int32) (i : Nat) (ht : t = nI i) (hi : i < 30) : Ret 2 0 0 m_Mod_hasLine [.ref 45, .int t, .int 1] (wld K (rf, s, im, mt, rd, sc) tl) (some (.int (zb (decide (s (6 + 6 * i + 1) < 0) || decide (s (6 + 6 * i + 1) ≤ s (264 + 1)))))) (wld K (rf, s, im, mt, rd, sc) tl) := by
  subst ht
  refine Ret.of (n := 1) (by decide) (zb_nar _) rfl (fun X => ?_)
  refine z_iload_n d_Mod_hasLine_0 rfl 1 rfl ?_
  refine z_iconst d_Mod_hasLine_1 2 (by decide) 2 rfl ?_
  refine z_icmp_le d_Mod_hasLine_2 40 5 (by decide) rfl (fun h1 => ?_) (fun h => absurd (by decide) h)
  refine z_aload_n d_Mod_hasLine_40 rfl 41 rfl ?_
  refine z_iload_n d_Mod_hasLine_41 rfl 42 rfl ?_
  refine z_iload_n d_Mod_hasLine_42 rfl 43 rfl ?_
  refine z_invv d_Mod_hasLine_43 46 rfl hm_Mod_get lk_Mod_66 im_Mod_get sl_Mod_Mod_get rfl wm_45 (r_Mod_get _ _ (i) (1) rfl rfl (by omega)) rfl rfl (by decide) rfl rfl (Nat.le_of_ble_eq_true rfl) ?_
  refine z_istore_n d_Mod_hasLine_46 47 rfl (by decide) rfl ?_
  refine z_iload_n d_Mod_hasLine_47 rfl 48 rfl ?_
  refine z_if_lt d_Mod_hasLine_48 85 51 (by decide) rfl (fun h2 => ?_) (fun h2 => ?_)
  · refine z_iconst d_Mod_hasLine_85 1 (by decide) 86 rfl ?_
    refine z_goto d_Mod_hasLine_86 90 (by decide) ?_
    exact z_ireturn d_Mod_hasLine_90 (by simp_all [zb, zb_eq, zb_ne, ← Int32.not_le]) (rfl)
  · refine z_iload_n d_Mod_hasLine_51 rfl 52 rfl ?_
    refine z_iconst d_Mod_hasLine_52 2 (by decide) 53 rfl ?_
    refine z_icmp_ne d_Mod_hasLine_53 71 56 (by decide) rfl (fun h3 => ?_) (fun h => absurd h (by decide))
    refine z_aload_n d_Mod_hasLine_71 rfl 72 rfl ?_
    refine z_get d_Mod_hasLine_72 75 rfl fl_Mod_13_11 wm_45 rfl ?_
    refine z_sipush d_Mod_hasLine_75 264 (by decide) 78 rfl ?_
    refine z_iload_n d_Mod_hasLine_78 rfl 79 rfl ?_
    refine z_iadd d_Mod_hasLine_79 80 rfl ?_
    refine z_iaload d_Mod_hasLine_80 ((264 + 1)) 81 rfl wm_47 (by show (nI 264 + nI 1) = _; simp only [pk_mul, nI_add]) (by omega) (by decide) ?_
    refine z_iload_n d_Mod_hasLine_81 rfl 82 rfl ?_
    refine z_icmp_lt d_Mod_hasLine_82 89 85 (by decide) rfl (fun h4 => ?_) (fun h4 => ?_)
    · refine z_iconst d_Mod_hasLine_89 0 (by decide) 90 rfl ?_
      exact z_ireturn d_Mod_hasLine_90 (by simp_all [zb, zb_eq, zb_ne, ← Int32.not_le]) (rfl)
    · refine z_iconst d_Mod_hasLine_85 1 (by decide) 86 rfl ?_
      refine z_goto d_Mod_hasLine_86 90 (by decide) ?_
      exact z_ireturn d_Mod_hasLine_90 (by simp_all [zb, zb_eq, zb_ne, ← Int32.not_le]) (rfl)
set_option maxHeartbeats 400000 in
theorem r_Mod_hasLine_2 {K : zKK} {rf s im mt rd sc : Nat → Int32} {tl : List zC} (t : Int32) (i : Nat) (ht : t = nI i) (hi : i < 30) : Ret 2 0 0 m_Mod_hasLine [.ref 45, .int t, .int 2] (wld K (rf, s, im, mt, rd, sc) tl) (some (.int (zb (decide (s (6 + 6 * i + 2) < 0) || decide (s 266 = s (6 + 6 * i + 2)))))) (wld K (rf, s, im, mt, rd, sc) tl) := by
  subst ht
  refine Ret.of (n := 1) (by decide) (zb_nar _) rfl (fun X => ?_)
  refine z_iload_n d_Mod_hasLine_0 rfl 1 rfl ?_
  refine z_iconst d_Mod_hasLine_1 2 (by decide) 2 rfl ?_
  refine z_icmp_le d_Mod_hasLine_2 40 5 (by decide) rfl (fun h1 => ?_) (fun h => absurd (by decide) h)
  refine z_aload_n d_Mod_hasLine_40 rfl 41 rfl ?_
  refine z_iload_n d_Mod_hasLine_41 rfl 42 rfl ?_
  refine z_iload_n d_Mod_hasLine_42 rfl 43 rfl ?_
  refine z_invv d_Mod_hasLine_43 46 rfl hm_Mod_get lk_Mod_66 im_Mod_get sl_Mod_Mod_get rfl wm_45 (r_Mod_get _ _ (i) (2) rfl rfl (by omega)) rfl rfl (by decide) rfl rfl (Nat.le_of_ble_eq_true rfl) ?_
  refine z_istore_n d_Mod_hasLine_46 47 rfl (by decide) rfl ?_
  refine z_iload_n d_Mod_hasLine_47 rfl 48 rfl ?_
  refine z_if_lt d_Mod_hasLine_48 85 51 (by decide) rfl (fun h2 => ?_) (fun h2 => ?_)
  · refine z_iconst d_Mod_hasLine_85 1 (by decide) 86 rfl ?_
    refine z_goto d_Mod_hasLine_86 90 (by decide) ?_
    exact z_ireturn d_Mod_hasLine_90 (by simp_all [zb, zb_eq, zb_ne, ← Int32.not_le]) (rfl)
  · refine z_iload_n d_Mod_hasLine_51 rfl 52 rfl ?_
    refine z_iconst d_Mod_hasLine_52 2 (by decide) 53 rfl ?_
    refine z_icmp_ne d_Mod_hasLine_53 71 56 (by decide) rfl (fun h => absurd (by decide) h) (fun h3 => ?_)
    refine z_aload_n d_Mod_hasLine_56 rfl 57 rfl ?_
    refine z_get d_Mod_hasLine_57 60 rfl fl_Mod_13_11 wm_45 rfl ?_
    refine z_sipush d_Mod_hasLine_60 266 (by decide) 63 rfl ?_
    refine z_iaload d_Mod_hasLine_63 (266) 64 rfl wm_47 (rfl) (by omega) (by decide) ?_
    refine z_iload_n d_Mod_hasLine_64 rfl 65 rfl ?_
    refine z_icmp_ne d_Mod_hasLine_65 89 68 (by decide) rfl (fun h4 => ?_) (fun h4 => ?_)
    · refine z_iconst d_Mod_hasLine_89 0 (by decide) 90 rfl ?_
      exact z_ireturn d_Mod_hasLine_90 (by simp_all [zb, zb_eq, zb_ne, ← Int32.not_le]) (rfl)
    · refine z_goto d_Mod_hasLine_68 85 (by decide) ?_
      refine z_iconst d_Mod_hasLine_85 1 (by decide) 86 rfl ?_
      refine z_goto d_Mod_hasLine_86 90 (by decide) ?_
      exact z_ireturn d_Mod_hasLine_90 (by simp_all [zb, zb_eq, zb_ne, ← Int32.not_le]) (rfl)
set_option maxHeartbeats 400000 in
theorem r_Mod_hasLine_3 {K : zKK} {rf s im mt rd sc : Nat → Int32} {tl : List zC} (t : Int32) (i : Nat) (ht : t = nI i) (hi : i < 30) : Ret 2 0 0 m_Mod_hasLine [.ref 45, .int t, .int 3] (wld K (rf, s, im, mt, rd, sc) tl) (some (.int (zb (!mkd (s (6 + 6 * i + 3)) (3 - 3) || decide ((s 267 >>> ((3 - 3) &&& 31)) &&& 1 = 1))))) (wld K (rf, s, im, mt, rd, sc) tl) := by
  subst ht
  refine Ret.of (n := 1) (by decide) (zb_nar _) rfl (fun X => ?_)
  refine z_iload_n d_Mod_hasLine_0 rfl 1 rfl ?_
  refine z_iconst d_Mod_hasLine_1 2 (by decide) 2 rfl ?_
  refine z_icmp_le d_Mod_hasLine_2 40 5 (by decide) rfl (fun h => absurd h (by decide)) (fun h1 => ?_)
  refine z_aload_n d_Mod_hasLine_5 rfl 6 rfl ?_
  refine z_iload_n d_Mod_hasLine_6 rfl 7 rfl ?_
  refine z_iload_n d_Mod_hasLine_7 rfl 8 rfl ?_
  refine z_iconst d_Mod_hasLine_8 3 (by decide) 9 rfl ?_
  refine z_isub d_Mod_hasLine_9 10 rfl ?_
  refine z_invv d_Mod_hasLine_10 13 rfl hm_Mod_isMarked lk_Mod_70 im_Mod_isMarked sl_Mod_Mod_isMarked rfl wm_45 (r_Mod_isMarked _ _ (i) rfl (by omega)) rfl rfl (by decide) rfl rfl (Nat.le_of_ble_eq_true rfl) ?_
  refine z_if_eq d_Mod_hasLine_13 34 16 (by decide) rfl (fun h2 => ?_) (fun h2 => ?_)
  · refine z_iconst d_Mod_hasLine_34 1 (by decide) 35 rfl ?_
    refine z_goto d_Mod_hasLine_35 39 (by decide) ?_
    exact z_ireturn d_Mod_hasLine_39 (by simp_all [zb, zb_eq, zb_ne, ← Int32.not_le]) (rfl)
  · refine z_aload_n d_Mod_hasLine_16 rfl 17 rfl ?_
    refine z_get d_Mod_hasLine_17 20 rfl fl_Mod_13_11 wm_45 rfl ?_
    refine z_sipush d_Mod_hasLine_20 267 (by decide) 23 rfl ?_
    refine z_iaload d_Mod_hasLine_23 (267) 24 rfl wm_47 (rfl) (by omega) (by decide) ?_
    refine z_iload_n d_Mod_hasLine_24 rfl 25 rfl ?_
    refine z_iconst d_Mod_hasLine_25 3 (by decide) 26 rfl ?_
    refine z_isub d_Mod_hasLine_26 27 rfl ?_
    refine z_ishr d_Mod_hasLine_27 28 rfl ?_
    refine z_iconst d_Mod_hasLine_28 1 (by decide) 29 rfl ?_
    refine z_iand d_Mod_hasLine_29 30 rfl ?_
    refine z_iconst d_Mod_hasLine_30 1 (by decide) 31 rfl ?_
    refine z_icmp_ne d_Mod_hasLine_31 38 34 (by decide) rfl (fun h3 => ?_) (fun h3 => ?_)
    · refine z_iconst d_Mod_hasLine_38 0 (by decide) 39 rfl ?_
      exact z_ireturn d_Mod_hasLine_39 (by simp_all [zb, zb_eq, zb_ne, ← Int32.not_le]) (rfl)
    · refine z_iconst d_Mod_hasLine_34 1 (by decide) 35 rfl ?_
      refine z_goto d_Mod_hasLine_35 39 (by decide) ?_
      exact z_ireturn d_Mod_hasLine_39 (by simp_all [zb, zb_eq, zb_ne, ← Int32.not_le]) (rfl)
set_option maxHeartbeats 400000 in
theorem r_Mod_hasLine_4 {K : zKK} {rf s im mt rd sc : Nat → Int32} {tl : List zC} (t : Int32) (i : Nat) (ht : t = nI i) (hi : i < 30) : Ret 2 0 0 m_Mod_hasLine [.ref 45, .int t, .int 4] (wld K (rf, s, im, mt, rd, sc) tl) (some (.int (zb (!mkd (s (6 + 6 * i + 3)) (4 - 3) || decide ((s 267 >>> ((4 - 3) &&& 31)) &&& 1 = 1))))) (wld K (rf, s, im, mt, rd, sc) tl) := by
  subst ht
  refine Ret.of (n := 1) (by decide) (zb_nar _) rfl (fun X => ?_)
  refine z_iload_n d_Mod_hasLine_0 rfl 1 rfl ?_
  refine z_iconst d_Mod_hasLine_1 2 (by decide) 2 rfl ?_
  refine z_icmp_le d_Mod_hasLine_2 40 5 (by decide) rfl (fun h => absurd h (by decide)) (fun h1 => ?_)
  refine z_aload_n d_Mod_hasLine_5 rfl 6 rfl ?_
  refine z_iload_n d_Mod_hasLine_6 rfl 7 rfl ?_
  refine z_iload_n d_Mod_hasLine_7 rfl 8 rfl ?_
  refine z_iconst d_Mod_hasLine_8 3 (by decide) 9 rfl ?_
  refine z_isub d_Mod_hasLine_9 10 rfl ?_
  refine z_invv d_Mod_hasLine_10 13 rfl hm_Mod_isMarked lk_Mod_70 im_Mod_isMarked sl_Mod_Mod_isMarked rfl wm_45 (r_Mod_isMarked _ _ (i) rfl (by omega)) rfl rfl (by decide) rfl rfl (Nat.le_of_ble_eq_true rfl) ?_
  refine z_if_eq d_Mod_hasLine_13 34 16 (by decide) rfl (fun h2 => ?_) (fun h2 => ?_)
  · refine z_iconst d_Mod_hasLine_34 1 (by decide) 35 rfl ?_
    refine z_goto d_Mod_hasLine_35 39 (by decide) ?_
    exact z_ireturn d_Mod_hasLine_39 (by simp_all [zb, zb_eq, zb_ne, ← Int32.not_le]) (rfl)
  · refine z_aload_n d_Mod_hasLine_16 rfl 17 rfl ?_
    refine z_get d_Mod_hasLine_17 20 rfl fl_Mod_13_11 wm_45 rfl ?_
    refine z_sipush d_Mod_hasLine_20 267 (by decide) 23 rfl ?_
    refine z_iaload d_Mod_hasLine_23 (267) 24 rfl wm_47 (rfl) (by omega) (by decide) ?_
    refine z_iload_n d_Mod_hasLine_24 rfl 25 rfl ?_
    refine z_iconst d_Mod_hasLine_25 3 (by decide) 26 rfl ?_
    refine z_isub d_Mod_hasLine_26 27 rfl ?_
    refine z_ishr d_Mod_hasLine_27 28 rfl ?_
    refine z_iconst d_Mod_hasLine_28 1 (by decide) 29 rfl ?_
    refine z_iand d_Mod_hasLine_29 30 rfl ?_
    refine z_iconst d_Mod_hasLine_30 1 (by decide) 31 rfl ?_
    refine z_icmp_ne d_Mod_hasLine_31 38 34 (by decide) rfl (fun h3 => ?_) (fun h3 => ?_)
    · refine z_iconst d_Mod_hasLine_38 0 (by decide) 39 rfl ?_
      exact z_ireturn d_Mod_hasLine_39 (by simp_all [zb, zb_eq, zb_ne, ← Int32.not_le]) (rfl)
    · refine z_iconst d_Mod_hasLine_34 1 (by decide) 35 rfl ?_
      refine z_goto d_Mod_hasLine_35 39 (by decide) ?_
      exact z_ireturn d_Mod_hasLine_39 (by simp_all [zb, zb_eq, zb_ne, ← Int32.not_le]) (rfl)
set_option maxHeartbeats 400000 in
theorem r_Mod_hasLine_5 {K : zKK} {rf s im mt rd sc : Nat → Int32} {tl : List zC} (t : Int32) (i : Nat) (ht : t = nI i) (hi : i < 30) : Ret 2 0 0 m_Mod_hasLine [.ref 45, .int t, .int 5] (wld K (rf, s, im, mt, rd, sc) tl) (some (.int (zb (!mkd (s (6 + 6 * i + 3)) (5 - 3) || decide ((s 267 >>> ((5 - 3) &&& 31)) &&& 1 = 1))))) (wld K (rf, s, im, mt, rd, sc) tl) := by
  subst ht
  refine Ret.of (n := 1) (by decide) (zb_nar _) rfl (fun X => ?_)
  refine z_iload_n d_Mod_hasLine_0 rfl 1 rfl ?_
  refine z_iconst d_Mod_hasLine_1 2 (by decide) 2 rfl ?_
  refine z_icmp_le d_Mod_hasLine_2 40 5 (by decide) rfl (fun h => absurd h (by decide)) (fun h1 => ?_)
  refine z_aload_n d_Mod_hasLine_5 rfl 6 rfl ?_
  refine z_iload_n d_Mod_hasLine_6 rfl 7 rfl ?_
  refine z_iload_n d_Mod_hasLine_7 rfl 8 rfl ?_
  refine z_iconst d_Mod_hasLine_8 3 (by decide) 9 rfl ?_
  refine z_isub d_Mod_hasLine_9 10 rfl ?_
  refine z_invv d_Mod_hasLine_10 13 rfl hm_Mod_isMarked lk_Mod_70 im_Mod_isMarked sl_Mod_Mod_isMarked rfl wm_45 (r_Mod_isMarked _ _ (i) rfl (by omega)) rfl rfl (by decide) rfl rfl (Nat.le_of_ble_eq_true rfl) ?_
  refine z_if_eq d_Mod_hasLine_13 34 16 (by decide) rfl (fun h2 => ?_) (fun h2 => ?_)
  · refine z_iconst d_Mod_hasLine_34 1 (by decide) 35 rfl ?_
    refine z_goto d_Mod_hasLine_35 39 (by decide) ?_
    exact z_ireturn d_Mod_hasLine_39 (by simp_all [zb, zb_eq, zb_ne, ← Int32.not_le]) (rfl)
  · refine z_aload_n d_Mod_hasLine_16 rfl 17 rfl ?_
    refine z_get d_Mod_hasLine_17 20 rfl fl_Mod_13_11 wm_45 rfl ?_
    refine z_sipush d_Mod_hasLine_20 267 (by decide) 23 rfl ?_
    refine z_iaload d_Mod_hasLine_23 (267) 24 rfl wm_47 (rfl) (by omega) (by decide) ?_
    refine z_iload_n d_Mod_hasLine_24 rfl 25 rfl ?_
    refine z_iconst d_Mod_hasLine_25 3 (by decide) 26 rfl ?_
    refine z_isub d_Mod_hasLine_26 27 rfl ?_
    refine z_ishr d_Mod_hasLine_27 28 rfl ?_
    refine z_iconst d_Mod_hasLine_28 1 (by decide) 29 rfl ?_
    refine z_iand d_Mod_hasLine_29 30 rfl ?_
    refine z_iconst d_Mod_hasLine_30 1 (by decide) 31 rfl ?_
    refine z_icmp_ne d_Mod_hasLine_31 38 34 (by decide) rfl (fun h3 => ?_) (fun h3 => ?_)
    · refine z_iconst d_Mod_hasLine_38 0 (by decide) 39 rfl ?_
      exact z_ireturn d_Mod_hasLine_39 (by simp_all [zb, zb_eq, zb_ne, ← Int32.not_le]) (rfl)
    · refine z_iconst d_Mod_hasLine_34 1 (by decide) 35 rfl ?_
      refine z_goto d_Mod_hasLine_35 39 (by decide) ?_
      exact z_ireturn d_Mod_hasLine_39 (by simp_all [zb, zb_eq, zb_ne, ← Int32.not_le]) (rfl)
set_option maxHeartbeats 400000 in
theorem r_Mod_hasLine_6 {K : zKK} {rf s im mt rd sc : Nat → Int32} {tl : List zC} (t : Int32) (i : Nat) (ht : t = nI i) (hi : i < 30) : Ret 2 0 0 m_Mod_hasLine [.ref 45, .int t, .int 6] (wld K (rf, s, im, mt, rd, sc) tl) (some (.int (zb (!mkd (s (6 + 6 * i + 3)) (6 - 3) || decide ((s 267 >>> ((6 - 3) &&& 31)) &&& 1 = 1))))) (wld K (rf, s, im, mt, rd, sc) tl) := by
  subst ht
  refine Ret.of (n := 1) (by decide) (zb_nar _) rfl (fun X => ?_)
  refine z_iload_n d_Mod_hasLine_0 rfl 1 rfl ?_
  refine z_iconst d_Mod_hasLine_1 2 (by decide) 2 rfl ?_
  refine z_icmp_le d_Mod_hasLine_2 40 5 (by decide) rfl (fun h => absurd h (by decide)) (fun h1 => ?_)
  refine z_aload_n d_Mod_hasLine_5 rfl 6 rfl ?_
  refine z_iload_n d_Mod_hasLine_6 rfl 7 rfl ?_
  refine z_iload_n d_Mod_hasLine_7 rfl 8 rfl ?_
  refine z_iconst d_Mod_hasLine_8 3 (by decide) 9 rfl ?_
  refine z_isub d_Mod_hasLine_9 10 rfl ?_
  refine z_invv d_Mod_hasLine_10 13 rfl hm_Mod_isMarked lk_Mod_70 im_Mod_isMarked sl_Mod_Mod_isMarked rfl wm_45 (r_Mod_isMarked _ _ (i) rfl (by omega)) rfl rfl (by decide) rfl rfl (Nat.le_of_ble_eq_true rfl) ?_
  refine z_if_eq d_Mod_hasLine_13 34 16 (by decide) rfl (fun h2 => ?_) (fun h2 => ?_)
  · refine z_iconst d_Mod_hasLine_34 1 (by decide) 35 rfl ?_
    refine z_goto d_Mod_hasLine_35 39 (by decide) ?_
    exact z_ireturn d_Mod_hasLine_39 (by simp_all [zb, zb_eq, zb_ne, ← Int32.not_le]) (rfl)
  · refine z_aload_n d_Mod_hasLine_16 rfl 17 rfl ?_
    refine z_get d_Mod_hasLine_17 20 rfl fl_Mod_13_11 wm_45 rfl ?_
    refine z_sipush d_Mod_hasLine_20 267 (by decide) 23 rfl ?_
    refine z_iaload d_Mod_hasLine_23 (267) 24 rfl wm_47 (rfl) (by omega) (by decide) ?_
    refine z_iload_n d_Mod_hasLine_24 rfl 25 rfl ?_
    refine z_iconst d_Mod_hasLine_25 3 (by decide) 26 rfl ?_
    refine z_isub d_Mod_hasLine_26 27 rfl ?_
    refine z_ishr d_Mod_hasLine_27 28 rfl ?_
    refine z_iconst d_Mod_hasLine_28 1 (by decide) 29 rfl ?_
    refine z_iand d_Mod_hasLine_29 30 rfl ?_
    refine z_iconst d_Mod_hasLine_30 1 (by decide) 31 rfl ?_
    refine z_icmp_ne d_Mod_hasLine_31 38 34 (by decide) rfl (fun h3 => ?_) (fun h3 => ?_)
    · refine z_iconst d_Mod_hasLine_38 0 (by decide) 39 rfl ?_
      exact z_ireturn d_Mod_hasLine_39 (by simp_all [zb, zb_eq, zb_ne, ← Int32.not_le]) (rfl)
    · refine z_iconst d_Mod_hasLine_34 1 (by decide) 35 rfl ?_
      refine z_goto d_Mod_hasLine_35 39 (by decide) ?_
      exact z_ireturn d_Mod_hasLine_39 (by simp_all [zb, zb_eq, zb_ne, ← Int32.not_le]) (rfl)
set_option maxHeartbeats 400000 in
theorem r_Mod_hasLine_7 {K : zKK} {rf s im mt rd sc : Nat → Int32} {tl : List zC} (t : Int32) (i : Nat) (ht : t = nI i) (hi : i < 30) : Ret 2 0 0 m_Mod_hasLine [.ref 45, .int t, .int 7] (wld K (rf, s, im, mt, rd, sc) tl) (some (.int (zb (!mkd (s (6 + 6 * i + 3)) (7 - 3) || decide ((s 267 >>> ((7 - 3) &&& 31)) &&& 1 = 1))))) (wld K (rf, s, im, mt, rd, sc) tl) := by
  subst ht
  refine Ret.of (n := 1) (by decide) (zb_nar _) rfl (fun X => ?_)
  refine z_iload_n d_Mod_hasLine_0 rfl 1 rfl ?_
  refine z_iconst d_Mod_hasLine_1 2 (by decide) 2 rfl ?_
  refine z_icmp_le d_Mod_hasLine_2 40 5 (by decide) rfl (fun h => absurd h (by decide)) (fun h1 => ?_)
  refine z_aload_n d_Mod_hasLine_5 rfl 6 rfl ?_
  refine z_iload_n d_Mod_hasLine_6 rfl 7 rfl ?_
  refine z_iload_n d_Mod_hasLine_7 rfl 8 rfl ?_
  refine z_iconst d_Mod_hasLine_8 3 (by decide) 9 rfl ?_
  refine z_isub d_Mod_hasLine_9 10 rfl ?_
  refine z_invv d_Mod_hasLine_10 13 rfl hm_Mod_isMarked lk_Mod_70 im_Mod_isMarked sl_Mod_Mod_isMarked rfl wm_45 (r_Mod_isMarked _ _ (i) rfl (by omega)) rfl rfl (by decide) rfl rfl (Nat.le_of_ble_eq_true rfl) ?_
  refine z_if_eq d_Mod_hasLine_13 34 16 (by decide) rfl (fun h2 => ?_) (fun h2 => ?_)
  · refine z_iconst d_Mod_hasLine_34 1 (by decide) 35 rfl ?_
    refine z_goto d_Mod_hasLine_35 39 (by decide) ?_
    exact z_ireturn d_Mod_hasLine_39 (by simp_all [zb, zb_eq, zb_ne, ← Int32.not_le]) (rfl)
  · refine z_aload_n d_Mod_hasLine_16 rfl 17 rfl ?_
    refine z_get d_Mod_hasLine_17 20 rfl fl_Mod_13_11 wm_45 rfl ?_
    refine z_sipush d_Mod_hasLine_20 267 (by decide) 23 rfl ?_
    refine z_iaload d_Mod_hasLine_23 (267) 24 rfl wm_47 (rfl) (by omega) (by decide) ?_
    refine z_iload_n d_Mod_hasLine_24 rfl 25 rfl ?_
    refine z_iconst d_Mod_hasLine_25 3 (by decide) 26 rfl ?_
    refine z_isub d_Mod_hasLine_26 27 rfl ?_
    refine z_ishr d_Mod_hasLine_27 28 rfl ?_
    refine z_iconst d_Mod_hasLine_28 1 (by decide) 29 rfl ?_
    refine z_iand d_Mod_hasLine_29 30 rfl ?_
    refine z_iconst d_Mod_hasLine_30 1 (by decide) 31 rfl ?_
    refine z_icmp_ne d_Mod_hasLine_31 38 34 (by decide) rfl (fun h3 => ?_) (fun h3 => ?_)
    · refine z_iconst d_Mod_hasLine_38 0 (by decide) 39 rfl ?_
      exact z_ireturn d_Mod_hasLine_39 (by simp_all [zb, zb_eq, zb_ne, ← Int32.not_le]) (rfl)
    · refine z_iconst d_Mod_hasLine_34 1 (by decide) 35 rfl ?_
      refine z_goto d_Mod_hasLine_35 39 (by decide) ?_
      exact z_ireturn d_Mod_hasLine_39 (by simp_all [zb, zb_eq, zb_ne, ← Int32.not_le]) (rfl)
set_option maxHeartbeats 400000 in
theorem r_Mod_hasLine_8 {K : zKK} {rf s im mt rd sc : Nat → Int32} {tl : List zC} (t : Int32) (i : Nat) (ht : t = nI i) (hi : i < 30) : Ret 2 0 0 m_Mod_hasLine [.ref 45, .int t, .int 8] (wld K (rf, s, im, mt, rd, sc) tl) (some (.int (zb (!mkd (s (6 + 6 * i + 3)) (8 - 3) || decide ((s 267 >>> ((8 - 3) &&& 31)) &&& 1 = 1))))) (wld K (rf, s, im, mt, rd, sc) tl) := by
  subst ht
  refine Ret.of (n := 1) (by decide) (zb_nar _) rfl (fun X => ?_)
  refine z_iload_n d_Mod_hasLine_0 rfl 1 rfl ?_
  refine z_iconst d_Mod_hasLine_1 2 (by decide) 2 rfl ?_
  refine z_icmp_le d_Mod_hasLine_2 40 5 (by decide) rfl (fun h => absurd h (by decide)) (fun h1 => ?_)
  refine z_aload_n d_Mod_hasLine_5 rfl 6 rfl ?_
  refine z_iload_n d_Mod_hasLine_6 rfl 7 rfl ?_
  refine z_iload_n d_Mod_hasLine_7 rfl 8 rfl ?_
  refine z_iconst d_Mod_hasLine_8 3 (by decide) 9 rfl ?_
  refine z_isub d_Mod_hasLine_9 10 rfl ?_
  refine z_invv d_Mod_hasLine_10 13 rfl hm_Mod_isMarked lk_Mod_70 im_Mod_isMarked sl_Mod_Mod_isMarked rfl wm_45 (r_Mod_isMarked _ _ (i) rfl (by omega)) rfl rfl (by decide) rfl rfl (Nat.le_of_ble_eq_true rfl) ?_
  refine z_if_eq d_Mod_hasLine_13 34 16 (by decide) rfl (fun h2 => ?_) (fun h2 => ?_)
  · refine z_iconst d_Mod_hasLine_34 1 (by decide) 35 rfl ?_
    refine z_goto d_Mod_hasLine_35 39 (by decide) ?_
    exact z_ireturn d_Mod_hasLine_39 (by simp_all [zb, zb_eq, zb_ne, ← Int32.not_le]) (rfl)
  · refine z_aload_n d_Mod_hasLine_16 rfl 17 rfl ?_
    refine z_get d_Mod_hasLine_17 20 rfl fl_Mod_13_11 wm_45 rfl ?_
    refine z_sipush d_Mod_hasLine_20 267 (by decide) 23 rfl ?_
    refine z_iaload d_Mod_hasLine_23 (267) 24 rfl wm_47 (rfl) (by omega) (by decide) ?_
    refine z_iload_n d_Mod_hasLine_24 rfl 25 rfl ?_
    refine z_iconst d_Mod_hasLine_25 3 (by decide) 26 rfl ?_
    refine z_isub d_Mod_hasLine_26 27 rfl ?_
    refine z_ishr d_Mod_hasLine_27 28 rfl ?_
    refine z_iconst d_Mod_hasLine_28 1 (by decide) 29 rfl ?_
    refine z_iand d_Mod_hasLine_29 30 rfl ?_
    refine z_iconst d_Mod_hasLine_30 1 (by decide) 31 rfl ?_
    refine z_icmp_ne d_Mod_hasLine_31 38 34 (by decide) rfl (fun h3 => ?_) (fun h3 => ?_)
    · refine z_iconst d_Mod_hasLine_38 0 (by decide) 39 rfl ?_
      exact z_ireturn d_Mod_hasLine_39 (by simp_all [zb, zb_eq, zb_ne, ← Int32.not_le]) (rfl)
    · refine z_iconst d_Mod_hasLine_34 1 (by decide) 35 rfl ?_
      refine z_goto d_Mod_hasLine_35 39 (by decide) ?_
      exact z_ireturn d_Mod_hasLine_39 (by simp_all [zb, zb_eq, zb_ne, ← Int32.not_le]) (rfl)
set_option maxHeartbeats 400000 in
theorem r_Mod_hasLine_9 {K : zKK} {rf s im mt rd sc : Nat → Int32} {tl : List zC} (t : Int32) (i : Nat) (ht : t = nI i) (hi : i < 30) : Ret 2 0 0 m_Mod_hasLine [.ref 45, .int t, .int 9] (wld K (rf, s, im, mt, rd, sc) tl) (some (.int (zb (!mkd (s (6 + 6 * i + 3)) (9 - 3) || decide ((s 267 >>> ((9 - 3) &&& 31)) &&& 1 = 1))))) (wld K (rf, s, im, mt, rd, sc) tl) := by
  subst ht
  refine Ret.of (n := 1) (by decide) (zb_nar _) rfl (fun X => ?_)
  refine z_iload_n d_Mod_hasLine_0 rfl 1 rfl ?_
  refine z_iconst d_Mod_hasLine_1 2 (by decide) 2 rfl ?_
  refine z_icmp_le d_Mod_hasLine_2 40 5 (by decide) rfl (fun h => absurd h (by decide)) (fun h1 => ?_)
  refine z_aload_n d_Mod_hasLine_5 rfl 6 rfl ?_
  refine z_iload_n d_Mod_hasLine_6 rfl 7 rfl ?_
  refine z_iload_n d_Mod_hasLine_7 rfl 8 rfl ?_
  refine z_iconst d_Mod_hasLine_8 3 (by decide) 9 rfl ?_
  refine z_isub d_Mod_hasLine_9 10 rfl ?_
  refine z_invv d_Mod_hasLine_10 13 rfl hm_Mod_isMarked lk_Mod_70 im_Mod_isMarked sl_Mod_Mod_isMarked rfl wm_45 (r_Mod_isMarked _ _ (i) rfl (by omega)) rfl rfl (by decide) rfl rfl (Nat.le_of_ble_eq_true rfl) ?_
  refine z_if_eq d_Mod_hasLine_13 34 16 (by decide) rfl (fun h2 => ?_) (fun h2 => ?_)
  · refine z_iconst d_Mod_hasLine_34 1 (by decide) 35 rfl ?_
    refine z_goto d_Mod_hasLine_35 39 (by decide) ?_
    exact z_ireturn d_Mod_hasLine_39 (by simp_all [zb, zb_eq, zb_ne, ← Int32.not_le]) (rfl)
  · refine z_aload_n d_Mod_hasLine_16 rfl 17 rfl ?_
    refine z_get d_Mod_hasLine_17 20 rfl fl_Mod_13_11 wm_45 rfl ?_
    refine z_sipush d_Mod_hasLine_20 267 (by decide) 23 rfl ?_
    refine z_iaload d_Mod_hasLine_23 (267) 24 rfl wm_47 (rfl) (by omega) (by decide) ?_
    refine z_iload_n d_Mod_hasLine_24 rfl 25 rfl ?_
    refine z_iconst d_Mod_hasLine_25 3 (by decide) 26 rfl ?_
    refine z_isub d_Mod_hasLine_26 27 rfl ?_
    refine z_ishr d_Mod_hasLine_27 28 rfl ?_
    refine z_iconst d_Mod_hasLine_28 1 (by decide) 29 rfl ?_
    refine z_iand d_Mod_hasLine_29 30 rfl ?_
    refine z_iconst d_Mod_hasLine_30 1 (by decide) 31 rfl ?_
    refine z_icmp_ne d_Mod_hasLine_31 38 34 (by decide) rfl (fun h3 => ?_) (fun h3 => ?_)
    · refine z_iconst d_Mod_hasLine_38 0 (by decide) 39 rfl ?_
      exact z_ireturn d_Mod_hasLine_39 (by simp_all [zb, zb_eq, zb_ne, ← Int32.not_le]) (rfl)
    · refine z_iconst d_Mod_hasLine_34 1 (by decide) 35 rfl ?_
      refine z_goto d_Mod_hasLine_35 39 (by decide) ?_
      exact z_ireturn d_Mod_hasLine_39 (by simp_all [zb, zb_eq, zb_ne, ← Int32.not_le]) (rfl)
set_option maxHeartbeats 400000 in
theorem r_Mod_hasLine_10 {K : zKK} {rf s im mt rd sc : Nat → Int32} {tl : List zC} (t : Int32) (i : Nat) (ht : t = nI i) (hi : i < 30) : Ret 2 0 0 m_Mod_hasLine [.ref 45, .int t, .int 10] (wld K (rf, s, im, mt, rd, sc) tl) (some (.int (zb (!mkd (s (6 + 6 * i + 3)) (10 - 3) || decide ((s 267 >>> ((10 - 3) &&& 31)) &&& 1 = 1))))) (wld K (rf, s, im, mt, rd, sc) tl) := by
  subst ht
  refine Ret.of (n := 1) (by decide) (zb_nar _) rfl (fun X => ?_)
  refine z_iload_n d_Mod_hasLine_0 rfl 1 rfl ?_
  refine z_iconst d_Mod_hasLine_1 2 (by decide) 2 rfl ?_
  refine z_icmp_le d_Mod_hasLine_2 40 5 (by decide) rfl (fun h => absurd h (by decide)) (fun h1 => ?_)
  refine z_aload_n d_Mod_hasLine_5 rfl 6 rfl ?_
  refine z_iload_n d_Mod_hasLine_6 rfl 7 rfl ?_
  refine z_iload_n d_Mod_hasLine_7 rfl 8 rfl ?_
  refine z_iconst d_Mod_hasLine_8 3 (by decide) 9 rfl ?_
  refine z_isub d_Mod_hasLine_9 10 rfl ?_
  refine z_invv d_Mod_hasLine_10 13 rfl hm_Mod_isMarked lk_Mod_70 im_Mod_isMarked sl_Mod_Mod_isMarked rfl wm_45 (r_Mod_isMarked _ _ (i) rfl (by omega)) rfl rfl (by decide) rfl rfl (Nat.le_of_ble_eq_true rfl) ?_
  refine z_if_eq d_Mod_hasLine_13 34 16 (by decide) rfl (fun h2 => ?_) (fun h2 => ?_)
  · refine z_iconst d_Mod_hasLine_34 1 (by decide) 35 rfl ?_
    refine z_goto d_Mod_hasLine_35 39 (by decide) ?_
    exact z_ireturn d_Mod_hasLine_39 (by simp_all [zb, zb_eq, zb_ne, ← Int32.not_le]) (rfl)
  · refine z_aload_n d_Mod_hasLine_16 rfl 17 rfl ?_
    refine z_get d_Mod_hasLine_17 20 rfl fl_Mod_13_11 wm_45 rfl ?_
    refine z_sipush d_Mod_hasLine_20 267 (by decide) 23 rfl ?_
    refine z_iaload d_Mod_hasLine_23 (267) 24 rfl wm_47 (rfl) (by omega) (by decide) ?_
    refine z_iload_n d_Mod_hasLine_24 rfl 25 rfl ?_
    refine z_iconst d_Mod_hasLine_25 3 (by decide) 26 rfl ?_
    refine z_isub d_Mod_hasLine_26 27 rfl ?_
    refine z_ishr d_Mod_hasLine_27 28 rfl ?_
    refine z_iconst d_Mod_hasLine_28 1 (by decide) 29 rfl ?_
    refine z_iand d_Mod_hasLine_29 30 rfl ?_
    refine z_iconst d_Mod_hasLine_30 1 (by decide) 31 rfl ?_
    refine z_icmp_ne d_Mod_hasLine_31 38 34 (by decide) rfl (fun h3 => ?_) (fun h3 => ?_)
    · refine z_iconst d_Mod_hasLine_38 0 (by decide) 39 rfl ?_
      exact z_ireturn d_Mod_hasLine_39 (by simp_all [zb, zb_eq, zb_ne, ← Int32.not_le]) (rfl)
    · refine z_iconst d_Mod_hasLine_34 1 (by decide) 35 rfl ?_
      refine z_goto d_Mod_hasLine_35 39 (by decide) ?_
      exact z_ireturn d_Mod_hasLine_39 (by simp_all [zb, zb_eq, zb_ne, ← Int32.not_le]) (rfl)
theorem r_Mod_hasLine {K : zKK} {rf s im mt rd sc : Nat → Int32} {tl : List zC} (t k0 : Int32) (i k : Nat) (ht : t = nI i) (hk0 : k0 = nI k) (hi : i < 30) (hk : k < 11) : Ret 2 0 0 m_Mod_hasLine [.ref 45, .int t, .int k0] (wld K (rf, s, im, mt, rd, sc) tl) (some (.int (zb (hlV s i k)))) (wld K (rf, s, im, mt, rd, sc) tl) := by
  subst hk0
  rcases (show k = 0 ∨ k = 1 ∨ k = 2 ∨ k = 3 ∨ k = 4 ∨ k = 5 ∨ k = 6 ∨ k = 7 ∨ k = 8 ∨ k = 9 ∨ k = 10 by omega) with rfl | rfl | rfl | rfl | rfl | rfl | rfl | rfl | rfl | rfl | rfl
  · exact r_Mod_hasLine_0 t i ht hi
  · exact r_Mod_hasLine_1 t i ht hi
  · exact r_Mod_hasLine_2 t i ht hi
  · exact r_Mod_hasLine_3 t i ht hi
  · exact r_Mod_hasLine_4 t i ht hi
  · exact r_Mod_hasLine_5 t i ht hi
  · exact r_Mod_hasLine_6 t i ht hi
  · exact r_Mod_hasLine_7 t i ht hi
  · exact r_Mod_hasLine_8 t i ht hi
  · exact r_Mod_hasLine_9 t i ht hi
  · exact r_Mod_hasLine_10 t i ht hi
set_option maxHeartbeats 400000 in
theorem r_Mod_lines {K : zKK} {rf s im mt rd sc : Nat → Int32} {tl : List zC} {n : Nat} (hn : s 0 = nI n) (hn30 : n ≤ 30) (t : Int32) : Ret 3 0 0 m_Mod_lines [.ref 45, .int t] (wld K (rf, s, im, mt, rd, sc) tl) (some (.int ((if inR t (s 0) = true then sm (fun k => if hlV s (ix t) k = true then 1 else 0) 11 else -1)))) (wld K ((if inR t (s 0) = true then rf else rfu rf 1), s, im, mt, rd, sc) tl) := by
  refine Ret.of (n := 2) (by decide) (rfl) rfl (fun X => ?_)
  refine z_aload_n d_Mod_lines_0 rfl 1 rfl ?_
  refine z_iload_n d_Mod_lines_1 rfl 2 rfl ?_
  refine z_invv d_Mod_lines_2 5 rfl hm_Mod_isTelling lk_Mod_63 im_Mod_isTelling sl_Mod_Mod_isTelling rfl wm_45 (r_Mod_isTelling _) rfl rfl (by decide) rfl rfl (Nat.le_of_ble_eq_true rfl) ?_
  refine z_if_ne d_Mod_lines_5 14 8 (by decide) rfl (fun h1 => ?_) (fun h1 => ?_)
  · obtain ⟨i2, hi2, rfl⟩ := vld h1 hn (by omega)
    have hci2 : (nI i2).toNatClampNeg = i2 := nI_clamp (by omega)
    refine z_iconst d_Mod_lines_14 0 (by decide) 15 rfl ?_
    refine z_istore_n d_Mod_lines_15 16 rfl (by decide) rfl ?_
    refine z_iconst d_Mod_lines_16 0 (by decide) 17 rfl ?_
    refine z_istore_n d_Mod_lines_17 18 rfl (by decide) rfl ?_
    refine zloop (fun k => Z X m_Mod_lines 3 0 0 (some (.int ((if inR (nI i2) (s 0) = true then sm (fun k => if hlV s (ix (nI i2)) k = true then 1 else 0) 11 else -1)))) (wld K ((if inR (nI i2) (s 0) = true then rf else rfu rf 1), s, im, mt, rd, sc) tl) 18 [some (.ref 45), some (.int (nI i2)), some (.int (sm (fun k => if hlV s i2 k = true then 1 else 0) k)), some (.int (nI k))] [] (wld K (rf, s, im, mt, rd, sc) tl)) (11) ?_ ?_ 0 (Nat.zero_le _)
    · refine z_iload_n d_Mod_lines_18 rfl 19 rfl ?_
      refine z_bipush d_Mod_lines_19 11 (by decide) 21 rfl ?_
      refine z_icmp_ge d_Mod_lines_21 47 24 (by decide) rfl (fun h3 => ?_) (fun h => absurd (by decide) h)
      refine z_iload_n d_Mod_lines_47 rfl 48 rfl ?_
      exact z_ireturn d_Mod_lines_48 (by simp_all [zb_eq, zb_ne]) (by simp_all [zb_eq, zb_ne, rfu, ← Int32.not_le])
    · intro k hk ih
      refine z_iload_n d_Mod_lines_18 rfl 19 rfl ?_
      refine z_bipush d_Mod_lines_19 11 (by decide) 21 rfl ?_
      refine z_icmp_ge d_Mod_lines_21 47 24 (by decide) rfl (fun h => absurd h (show ¬ nI 11 ≤ nI k from nI_ge hk (by decide))) (fun h4 => ?_)
      refine z_iload_n d_Mod_lines_24 rfl 25 rfl ?_
      refine z_aload_n d_Mod_lines_25 rfl 26 rfl ?_
      refine z_iload_n d_Mod_lines_26 rfl 27 rfl ?_
      refine z_iload_n d_Mod_lines_27 rfl 28 rfl ?_
      refine z_invv d_Mod_lines_28 31 rfl hm_Mod_hasLine lk_Mod_121 im_Mod_hasLine sl_Mod_Mod_hasLine rfl wm_45 (r_Mod_hasLine _ _ (i2) (k) rfl rfl (by omega) (by omega)) rfl rfl (by decide) rfl rfl (Nat.le_of_ble_eq_true rfl) ?_
      refine z_if_eq d_Mod_lines_31 38 34 (by decide) rfl (fun h5 => ?_) (fun h5 => ?_)
      · refine z_iconst d_Mod_lines_38 0 (by decide) 39 rfl ?_
        refine z_iadd d_Mod_lines_39 40 rfl ?_
        refine z_istore_n d_Mod_lines_40 41 rfl (by decide) rfl ?_
        refine z_iinc d_Mod_lines_41 1 (by decide) 44 rfl rfl (by decide) rfl ?_
        refine z_goto d_Mod_lines_44 18 (by decide) ?_
        exact z_L _ (by simp_all [List.set, nI_succ, sm, zb_eq, zb_ne]) ih
      · refine z_iconst d_Mod_lines_34 1 (by decide) 35 rfl ?_
        refine z_goto d_Mod_lines_35 39 (by decide) ?_
        refine z_iadd d_Mod_lines_39 40 rfl ?_
        refine z_istore_n d_Mod_lines_40 41 rfl (by decide) rfl ?_
        refine z_iinc d_Mod_lines_41 1 (by decide) 44 rfl rfl (by decide) rfl ?_
        refine z_goto d_Mod_lines_44 18 (by decide) ?_
        exact z_L _ (by simp_all [List.set, nI_succ, sm, zb_eq, zb_ne]) ih
  · refine z_aload_n d_Mod_lines_8 rfl 9 rfl ?_
    refine z_iconst d_Mod_lines_9 (-1) (by decide) 10 rfl ?_
    refine z_invv d_Mod_lines_10 13 rfl hm_Mod_refuse lk_Mod_29 im_Mod_refuse sl_Mod_Mod_refuse rfl wm_45 (r_Mod_refuse (-1) 1 (by decide) (by decide)) rfl rfl (by decide) rfl rfl (Nat.le_of_ble_eq_true rfl) ?_
    exact z_ireturn d_Mod_lines_13 (by simp_all [zb_eq, zb_ne, ← Int32.not_le]) (by simp_all [zb_eq, zb_ne, rfu, ← Int32.not_le])
set_option maxHeartbeats 400000 in
theorem r_Mod_misses {K : zKK} {rf s im mt rd sc : Nat → Int32} {tl : List zC} {n : Nat} (hn : s 0 = nI n) (hn30 : n ≤ 30) (t : Int32) : Ret 3 0 0 m_Mod_misses [.ref 45, .int t] (wld K (rf, s, im, mt, rd, sc) tl) (some (.int ((if inR t (s 0) = true then fnd 11 (fun k => !hlV s (ix t) k) else -1)))) (wld K ((if inR t (s 0) = true then rf else rfu rf 1), s, im, mt, rd, sc) tl) := by
  refine Ret.of (n := 1) (by decide) (rfl) rfl (fun X => ?_)
  refine z_aload_n d_Mod_misses_0 rfl 1 rfl ?_
  refine z_iload_n d_Mod_misses_1 rfl 2 rfl ?_
  refine z_invv d_Mod_misses_2 5 rfl hm_Mod_isTelling lk_Mod_63 im_Mod_isTelling sl_Mod_Mod_isTelling rfl wm_45 (r_Mod_isTelling _) rfl rfl (by decide) rfl rfl (Nat.le_of_ble_eq_true rfl) ?_
  refine z_if_ne d_Mod_misses_5 14 8 (by decide) rfl (fun h1 => ?_) (fun h1 => ?_)
  · obtain ⟨i2, hi2, rfl⟩ := vld h1 hn (by omega)
    have hci2 : (nI i2).toNatClampNeg = i2 := nI_clamp (by omega)
    refine z_iconst d_Mod_misses_14 0 (by decide) 15 rfl ?_
    refine z_istore_n d_Mod_misses_15 16 rfl (by decide) rfl ?_
    refine zloop (fun k => (∀ q, q < k → hlV s i2 q = true) → Z X m_Mod_misses 3 0 0 (some (.int ((if inR (nI i2) (s 0) = true then fnd 11 (fun k => !hlV s (ix (nI i2)) k) else -1)))) (wld K ((if inR (nI i2) (s 0) = true then rf else rfu rf 1), s, im, mt, rd, sc) tl) 16 [some (.ref 45), some (.int (nI i2)), some (.int (nI k))] [] (wld K (rf, s, im, mt, rd, sc) tl)) (11) ?_ ?_ 0 (Nat.zero_le _) (fun q h => absurd h (Nat.not_lt_zero q))
    · intro hinv
      refine z_iload_n d_Mod_misses_16 rfl 17 rfl ?_
      refine z_bipush d_Mod_misses_17 11 (by decide) 19 rfl ?_
      refine z_icmp_ge d_Mod_misses_19 39 22 (by decide) rfl (fun h3 => ?_) (fun h => absurd (by decide) h)
      refine z_bipush d_Mod_misses_39 (-9) (by decide) 41 rfl ?_
      exact z_ireturn d_Mod_misses_41 (by rw [if_pos (by simp_all [zb_eq, zb_ne]), show ix (nI i2) = i2 from hci2, fnd_none (p := fun k => !hlV s i2 k) (fun q hq => by simp [hinv q hq])]) (by simp_all [zb_eq, zb_ne, rfu, ← Int32.not_le])
    · intro k hk ih hinv
      refine z_iload_n d_Mod_misses_16 rfl 17 rfl ?_
      refine z_bipush d_Mod_misses_17 11 (by decide) 19 rfl ?_
      refine z_icmp_ge d_Mod_misses_19 39 22 (by decide) rfl (fun h => absurd h (show ¬ nI 11 ≤ nI k from nI_ge hk (by decide))) (fun h4 => ?_)
      refine z_aload_n d_Mod_misses_22 rfl 23 rfl ?_
      refine z_iload_n d_Mod_misses_23 rfl 24 rfl ?_
      refine z_iload_n d_Mod_misses_24 rfl 25 rfl ?_
      refine z_invv d_Mod_misses_25 28 rfl hm_Mod_hasLine lk_Mod_121 im_Mod_hasLine sl_Mod_Mod_hasLine rfl wm_45 (r_Mod_hasLine _ _ (i2) (k) rfl rfl (by omega) (by omega)) rfl rfl (by decide) rfl rfl (Nat.le_of_ble_eq_true rfl) ?_
      refine z_if_ne d_Mod_misses_28 33 31 (by decide) rfl (fun h5 => ?_) (fun h5 => ?_)
      · refine z_iinc d_Mod_misses_33 1 (by decide) 36 rfl rfl (by decide) rfl ?_
        refine z_goto d_Mod_misses_36 16 (by decide) ?_
        exact z_L _ (by simp [nI_succ]) (ih (fun q hq => by
          rcases Nat.lt_or_ge q k with h | h
          · exact hinv q h
          · have : q = k := by omega
            subst this
            simp_all [zb_ne]))
      · refine z_iload_n d_Mod_misses_31 rfl 32 rfl ?_
        exact z_ireturn d_Mod_misses_32 (by rw [if_pos (by simp_all [zb_eq, zb_ne]), show ix (nI i2) = i2 from hci2, fnd_some (k := k) (p := fun k => !hlV s i2 k) hk (by simp_all [zb_eq, zb_ne]) (fun q hq => by simp [hinv q hq])]) (by simp_all [zb_eq, zb_ne, rfu, ← Int32.not_le])
  · refine z_aload_n d_Mod_misses_8 rfl 9 rfl ?_
    refine z_iconst d_Mod_misses_9 (-1) (by decide) 10 rfl ?_
    refine z_invv d_Mod_misses_10 13 rfl hm_Mod_refuse lk_Mod_29 im_Mod_refuse sl_Mod_Mod_refuse rfl wm_45 (r_Mod_refuse (-1) 1 (by decide) (by decide)) rfl rfl (by decide) rfl rfl (Nat.le_of_ble_eq_true rfl) ?_
    exact z_ireturn d_Mod_misses_13 (by simp_all [zb_eq, zb_ne, ← Int32.not_le]) (by simp_all [zb_eq, zb_ne, rfu, ← Int32.not_le])
