theorem vld {t a : Int32} (h : ¬ zb (inR t a) = 0) {n : Nat} (ha : a = nI n) (hn : n < 2 ^ 31) : ∃ i : Nat, i < n ∧ t = nI i := by
  have h1 := of_decide_eq_true ((zb_ne _).mp h)
  subst ha
  obtain ⟨j, hj, rfl⟩ := nI_of (fun q => absurd (Int32.le_iff_toInt_le.mp h1.1) (Int.not_le.mpr (Int32.lt_iff_toInt_lt.mp q)))
  exact ⟨j, (nI_ltI hj hn).mp h1.2, rfl⟩
def rfu (rf : Nat → Int32) (j : Nat) : Nat → Int32 := upd rf j (rf j + 1)
abbrev ix (t : Int32) : Nat := t.toNatClampNeg
theorem wi_cases (v a b : Int32) : v < a ∨ (¬ v < a ∧ b < v) ∨ (¬ v < a ∧ ¬ b < v) := by
  by_cases h1 : v < a
  · exact Or.inl h1
  · by_cases h2 : b < v
    · exact Or.inr (Or.inl ⟨h1, h2⟩)
    · exact Or.inr (Or.inr ⟨h1, h2⟩)
theorem r_Mod_within_1 {hp : List zC} (v a b : Int32) (h : v < a) : Ret 0 0 0 m_Mod_within [.int v, .int a, .int b] hp (some (.int (-4))) hp := by
  have := r_Mod_within (hp := hp) v a b
  rwa [if_pos h] at this
theorem r_Mod_within_2 {hp : List zC} (v a b : Int32) (h : ¬ v < a) (h2 : b < v) : Ret 0 0 0 m_Mod_within [.int v, .int a, .int b] hp (some (.int (-6))) hp := by
  have := r_Mod_within (hp := hp) v a b
  rwa [if_neg h, if_pos h2] at this
theorem r_Mod_within_3 {hp : List zC} (v a b : Int32) (h : ¬ v < a) (h2 : ¬ b < v) : Ret 0 0 0 m_Mod_within [.int v, .int a, .int b] hp (some (.int 0)) hp := by
  have := r_Mod_within (hp := hp) v a b
  rwa [if_neg h, if_neg h2] at this
set_option maxHeartbeats 4000000 in
theorem r_Mod_tellingOf {K : zKK} {rf s im mt rd sc : Nat → Int32} {tl : List zC} {n : Nat} (hn : s 0 = nI n) (hn30 : n ≤ 30) (t w : Int32) : Ret 5 0 0 m_Mod_tellingOf [.ref 45, .int t, .int w] (wld K (rf, s, im, mt, rd, sc) tl) (some (.int ((if inR t (s 0) = true then (if inR w 6 = true then s (6 + 6 * ix t + ix w) else -2) else -1)))) (wld K ((if inR t (s 0) = true then (if inR w 6 = true then rf else rfu rf 2) else rfu rf 1), s, im, mt, rd, sc) tl) := by
  refine Ret.of (n := 0) (by decide) (rfl) rfl (fun X => ?_)
  refine z_aload_n d_Mod_tellingOf_0 rfl 1 rfl ?_
  refine z_iload_n d_Mod_tellingOf_1 rfl 2 rfl ?_
  refine z_invv d_Mod_tellingOf_2 5 rfl hm_Mod_isTelling lk_Mod_63 im_Mod_isTelling sl_Mod_Mod_isTelling rfl wl_45 (r_Mod_isTelling _) rfl rfl (by decide) rfl rfl (Nat.le_of_ble_eq_true rfl) ?_
  refine z_if_ne d_Mod_tellingOf_5 16 8 (by decide) rfl (fun h1 => ?_) (fun h1 => ?_)
  · obtain ⟨i2, hi2, rfl⟩ := vld h1 hn (by omega)
    have hci2 : (nI i2).toNatClampNeg = i2 := nI_clamp (by omega)
    refine z_iload_n d_Mod_tellingOf_16 rfl 17 rfl ?_
    refine z_bipush d_Mod_tellingOf_17 6 (by decide) 19 rfl ?_
    refine z_invs d_Mod_tellingOf_19 22 rfl hm_Mod_isIn lk_Mod_25 st_Mod_isIn (r_Mod_isIn _ _) rfl rfl (by decide) rfl rfl (Nat.le_of_ble_eq_true rfl) ?_
    refine z_if_eq d_Mod_tellingOf_22 34 25 (by decide) rfl (fun h3 => ?_) (fun h3 => ?_)
    · refine z_aload_n d_Mod_tellingOf_34 rfl 35 rfl ?_
      refine z_bipush d_Mod_tellingOf_35 (-2) (by decide) 37 rfl ?_
      refine z_invv d_Mod_tellingOf_37 40 rfl hm_Mod_refuse lk_Mod_29 im_Mod_refuse sl_Mod_Mod_refuse rfl wl_45 (r_Mod_refuse (-2) 2 (by decide) (by decide)) rfl rfl (by decide) rfl rfl (Nat.le_of_ble_eq_true rfl) ?_
      exact z_ireturn d_Mod_tellingOf_40 (by simp_all [zb_eq, zb_ne, ← Int32.not_le]) (by simp_all [zb_eq, zb_ne, rfu, ← Int32.not_le])
    · obtain ⟨i4, hi4, rfl⟩ := vld h3 (n := 6) rfl (by decide)
      have hci4 : (nI i4).toNatClampNeg = i4 := nI_clamp (by omega)
      refine z_aload_n d_Mod_tellingOf_25 rfl 26 rfl ?_
      refine z_iload_n d_Mod_tellingOf_26 rfl 27 rfl ?_
      refine z_iload_n d_Mod_tellingOf_27 rfl 28 rfl ?_
      refine z_invv d_Mod_tellingOf_28 31 rfl hm_Mod_get lk_Mod_66 im_Mod_get sl_Mod_Mod_get rfl wl_45 (r_Mod_get _ _ (i2) (i4) rfl rfl (by omega)) rfl rfl (by decide) rfl rfl (Nat.le_of_ble_eq_true rfl) ?_
      refine z_goto d_Mod_tellingOf_31 40 (by decide) ?_
      exact z_ireturn d_Mod_tellingOf_40 (by simp_all [zb_eq, zb_ne, ← Int32.not_le]) (by simp_all [zb_eq, zb_ne, rfu, ← Int32.not_le])
  · refine z_aload_n d_Mod_tellingOf_8 rfl 9 rfl ?_
    refine z_iconst d_Mod_tellingOf_9 (-1) (by decide) 10 rfl ?_
    refine z_invv d_Mod_tellingOf_10 13 rfl hm_Mod_refuse lk_Mod_29 im_Mod_refuse sl_Mod_Mod_refuse rfl wl_45 (r_Mod_refuse (-1) 1 (by decide) (by decide)) rfl rfl (by decide) rfl rfl (Nat.le_of_ble_eq_true rfl) ?_
    refine z_goto d_Mod_tellingOf_13 40 (by decide) ?_
    exact z_ireturn d_Mod_tellingOf_40 (by simp_all [zb_eq, zb_ne, ← Int32.not_le]) (by simp_all [zb_eq, zb_ne, rfu, ← Int32.not_le])
set_option maxHeartbeats 4000000 in
theorem r_Mod_kind {K : zKK} {rf s im mt rd sc : Nat → Int32} {tl : List zC} {n : Nat} (hn : s 0 = nI n) (hn30 : n ≤ 30) (t : Int32) : Ret 5 0 0 m_Mod_kind [.ref 45, .int t] (wld K (rf, s, im, mt, rd, sc) tl) (some (.int ((if inR t (s 0) = true then kdV (s (6 + 6 * ix t + 3)) (s (6 + 6 * ix t + 4)) (s (6 + 6 * ix t + 5)) else -1)))) (wld K ((if inR t (s 0) = true then rf else rfu rf 1), s, im, mt, rd, sc) tl) := by
  refine Ret.of (n := 0) (by decide) (rfl) rfl (fun X => ?_)
  refine z_aload_n d_Mod_kind_0 rfl 1 rfl ?_
  refine z_iload_n d_Mod_kind_1 rfl 2 rfl ?_
  refine z_invv d_Mod_kind_2 5 rfl hm_Mod_isTelling lk_Mod_63 im_Mod_isTelling sl_Mod_Mod_isTelling rfl wl_45 (r_Mod_isTelling _) rfl rfl (by decide) rfl rfl (Nat.le_of_ble_eq_true rfl) ?_
  refine z_if_eq d_Mod_kind_5 16 8 (by decide) rfl (fun h1 => ?_) (fun h1 => ?_)
  · refine z_aload_n d_Mod_kind_16 rfl 17 rfl ?_
    refine z_iconst d_Mod_kind_17 (-1) (by decide) 18 rfl ?_
    refine z_invv d_Mod_kind_18 21 rfl hm_Mod_refuse lk_Mod_29 im_Mod_refuse sl_Mod_Mod_refuse rfl wl_45 (r_Mod_refuse (-1) 1 (by decide) (by decide)) rfl rfl (by decide) rfl rfl (Nat.le_of_ble_eq_true rfl) ?_
    exact z_ireturn d_Mod_kind_21 (by simp_all [zb_eq, zb_ne, ← Int32.not_le]) (by simp_all [zb_eq, zb_ne, rfu, ← Int32.not_le])
  · obtain ⟨i2, hi2, rfl⟩ := vld h1 hn (by omega)
    have hci2 : (nI i2).toNatClampNeg = i2 := nI_clamp (by omega)
    refine z_aload_n d_Mod_kind_8 rfl 9 rfl ?_
    refine z_iload_n d_Mod_kind_9 rfl 10 rfl ?_
    refine z_invv d_Mod_kind_10 13 rfl hm_Mod_kindOf lk_Mod_73 im_Mod_kindOf sl_Mod_Mod_kindOf rfl wl_45 (r_Mod_kindOf _ (i2) rfl (by omega)) rfl rfl (by decide) rfl rfl (Nat.le_of_ble_eq_true rfl) ?_
    refine z_goto d_Mod_kind_13 21 (by decide) ?_
    exact z_ireturn d_Mod_kind_21 (by simp_all [zb_eq, zb_ne, ← Int32.not_le]) (by simp_all [zb_eq, zb_ne, rfu, ← Int32.not_le])
set_option maxHeartbeats 4000000 in
theorem r_Mod_weight {K : zKK} {rf s im mt rd sc : Nat → Int32} {tl : List zC} {n : Nat} (hn : s 0 = nI n) (hn30 : n ≤ 30) (t : Int32) : Ret 5 0 0 m_Mod_weight [.ref 45, .int t] (wld K (rf, s, im, mt, rd, sc) tl) (some (.int ((if inR t (s 0) = true then wtV (s (6 + 6 * ix t + 1)) (s (6 + 6 * ix t + 3)) (s (6 + 6 * ix t + 4)) (s (6 + 6 * ix t + 5)) else -1)))) (wld K ((if inR t (s 0) = true then rf else rfu rf 1), s, im, mt, rd, sc) tl) := by
  refine Ret.of (n := 0) (by decide) (rfl) rfl (fun X => ?_)
  refine z_aload_n d_Mod_weight_0 rfl 1 rfl ?_
  refine z_iload_n d_Mod_weight_1 rfl 2 rfl ?_
  refine z_invv d_Mod_weight_2 5 rfl hm_Mod_isTelling lk_Mod_63 im_Mod_isTelling sl_Mod_Mod_isTelling rfl wl_45 (r_Mod_isTelling _) rfl rfl (by decide) rfl rfl (Nat.le_of_ble_eq_true rfl) ?_
  refine z_if_eq d_Mod_weight_5 16 8 (by decide) rfl (fun h1 => ?_) (fun h1 => ?_)
  · refine z_aload_n d_Mod_weight_16 rfl 17 rfl ?_
    refine z_iconst d_Mod_weight_17 (-1) (by decide) 18 rfl ?_
    refine z_invv d_Mod_weight_18 21 rfl hm_Mod_refuse lk_Mod_29 im_Mod_refuse sl_Mod_Mod_refuse rfl wl_45 (r_Mod_refuse (-1) 1 (by decide) (by decide)) rfl rfl (by decide) rfl rfl (Nat.le_of_ble_eq_true rfl) ?_
    exact z_ireturn d_Mod_weight_21 (by simp_all [zb_eq, zb_ne, ← Int32.not_le]) (by simp_all [zb_eq, zb_ne, rfu, ← Int32.not_le])
  · obtain ⟨i2, hi2, rfl⟩ := vld h1 hn (by omega)
    have hci2 : (nI i2).toNatClampNeg = i2 := nI_clamp (by omega)
    refine z_aload_n d_Mod_weight_8 rfl 9 rfl ?_
    refine z_iload_n d_Mod_weight_9 rfl 10 rfl ?_
    refine z_invv d_Mod_weight_10 13 rfl hm_Mod_weightOf lk_Mod_76 im_Mod_weightOf sl_Mod_Mod_weightOf rfl wl_45 (r_Mod_weightOf _ (i2) rfl (by omega)) rfl rfl (by decide) rfl rfl (Nat.le_of_ble_eq_true rfl) ?_
    refine z_goto d_Mod_weight_13 21 (by decide) ?_
    exact z_ireturn d_Mod_weight_21 (by simp_all [zb_eq, zb_ne, ← Int32.not_le]) (by simp_all [zb_eq, zb_ne, rfu, ← Int32.not_le])
