theorem vld {t a : Int32} (h : ¬ zb (inR t a) = 0) {n : Nat} (ha : a = nI n) (hn : n < 2 ^ 31) : ∃ i : Nat, i < n ∧ t = nI i := by
  have h1 := of_decide_eq_true ((zb_ne _).mp h)
  subst ha
  obtain ⟨j, hj, rfl⟩ := nI_of (fun q => absurd (Int32.le_iff_toInt_le.mp h1.1) (Int.not_le.mpr (Int32.lt_iff_toInt_lt.mp q)))
  exact ⟨j, (nI_ltI hj hn).mp h1.2, rfl⟩
def rfu (rf : Nat → Int32) (j : Nat) : Nat → Int32 := upd rf j (rf j + 1)
abbrev ix (t : Int32) : Nat := t.toNatClampNeg
theorem wi_cases (v a b : Int32) : v < a ∨ (¬ v < a ∧ b < v) ∨ (¬ v < a ∧ ¬ b < v) := by
  by_cases h1 : v < a
  · exact Or.inl h1
  · by_cases h2 : b < v
    · exact Or.inr (Or.inl ⟨h1, h2⟩)
    · exact Or.inr (Or.inr ⟨h1, h2⟩)
theorem r_Mod_within_1 {hp : List zC} (v a b : Int32) (h : v < a) : Ret 0 0 0 m_Mod_within [.int v, .int a, .int b] hp (some (.int (-4))) hp := by
  have := r_Mod_within (hp := hp) v a b
  rwa [if_pos h] at this
theorem r_Mod_within_2 {hp : List zC} (v a b : Int32) (h : ¬ v < a) (h2 : b < v) : Ret 0 0 0 m_Mod_within [.int v, .int a, .int b] hp (some (.int (-6))) hp := by
  have := r_Mod_within (hp := hp) v a b
  rwa [if_neg h, if_pos h2] at this
theorem r_Mod_within_3 {hp : List zC} (v a b : Int32) (h : ¬ v < a) (h2 : ¬ b < v) : Ret 0 0 0 m_Mod_within [.int v, .int a, .int b] hp (some (.int 0)) hp := by
  have := r_Mod_within (hp := hp) v a b
  rwa [if_neg h, if_neg h2] at this
set_option maxHeartbeats 400000 in
theorem r_Mod_tellingOf {K : zKK} {rf s im mt rd sc : Nat → Int32} {tl : List zC} {n : Nat} (hn : s 0 = nI n) (hn30 : n ≤ 30) (t w : Int32) : Ret 5 0 0 m_Mod_tellingOf [.ref 45, .int t, .int w] (wld K (rf, s, im, mt, rd, sc) tl) (some (.int ((if inR t (s 0) = true then (if inR w 6 = true then s (6 + 6 * ix t + ix w) else -2) else -1)))) (wld K ((if inR t (s 0) = true then (if inR w 6 = true then rf else rfu rf 2) else rfu rf 1), s, im, mt, rd, sc) tl) := by
  refine Ret.of (n := 0) (by decide) (rfl) rfl (fun X => ?_)
  refine z_aload_n d_Mod_tellingOf_0 rfl 1 rfl ?_
  refine z_iload_n d_Mod_tellingOf_1 rfl 2 rfl ?_
  refine z_invv d_Mod_tellingOf_2 5 rfl hm_Mod_isTelling lk_Mod_63 im_Mod_isTelling sl_Mod_Mod_isTelling rfl wm_45 (r_Mod_isTelling _) rfl rfl (by decide) rfl rfl (Nat.le_of_ble_eq_true rfl) ?_
  refine z_if_ne d_Mod_tellingOf_5 16 8 (by decide) rfl (fun h1 => ?_) (fun h1 => ?_)
  · obtain ⟨i2, hi2, rfl⟩ := vld h1 hn (by omega)
    have hci2 : (nI i2).toNatClampNeg = i2 := nI_clamp (by omega)
    refine z_iload_n d_Mod_tellingOf_16 rfl 17 rfl ?_
    refine z_bipush d_Mod_tellingOf_17 6 (by decide) 19 rfl ?_
    refine z_invs d_Mod_tellingOf_19 22 rfl hm_Mod_isIn lk_Mod_25 st_Mod_isIn (r_Mod_isIn _ _) rfl rfl (by decide) rfl rfl (Nat.le_of_ble_eq_true rfl) ?_
    refine z_if_eq d_Mod_tellingOf_22 34 25 (by decide) rfl (fun h3 => ?_) (fun h3 => ?_)
    · refine z_aload_n d_Mod_tellingOf_34 rfl 35 rfl ?_
      refine z_bipush d_Mod_tellingOf_35 (-2) (by decide) 37 rfl ?_
      refine z_invv d_Mod_tellingOf_37 40 rfl hm_Mod_refuse lk_Mod_29 im_Mod_refuse sl_Mod_Mod_refuse rfl wm_45 (r_Mod_refuse (-2) 2 (by decide) (by decide)) rfl rfl (by decide) rfl rfl (Nat.le_of_ble_eq_true rfl) ?_
      exact z_ireturn d_Mod_tellingOf_40 (by simp_all [zb_eq, zb_ne, ← Int32.not_le]) (by simp_all [zb_eq, zb_ne, rfu, ← Int32.not_le])
    · obtain ⟨i4, hi4, rfl⟩ := vld h3 (n := 6) rfl (by decide)
      have hci4 : (nI i4).toNatClampNeg = i4 := nI_clamp (by omega)
      refine z_aload_n d_Mod_tellingOf_25 rfl 26 rfl ?_
      refine z_iload_n d_Mod_tellingOf_26 rfl 27 rfl ?_
      refine z_iload_n d_Mod_tellingOf_27 rfl 28 rfl ?_
      refine z_invv d_Mod_tellingOf_28 31 rfl hm_Mod_get lk_Mod_66 im_Mod_get sl_Mod_Mod_get rfl wm_45 (r_Mod_get _ _ (i2) (i4) rfl rfl (by omega)) rfl rfl (by decide) rfl rfl (Nat.le_of_ble_eq_true rfl) ?_
      refine z_goto d_Mod_tellingOf_31 40 (by decide) ?_
      exact z_ireturn d_Mod_tellingOf_40 (by simp_all [zb_eq, zb_ne, ← Int32.not_le]) (by simp_all [zb_eq, zb_ne, rfu, ← Int32.not_le])
  · refine z_aload_n d_Mod_tellingOf_8 rfl 9 rfl ?_
    refine z_iconst d_Mod_tellingOf_9 (-1) (by decide) 10 rfl ?_
    refine z_invv d_Mod_tellingOf_10 13 rfl hm_Mod_refuse lk_Mod_29 im_Mod_refuse sl_Mod_Mod_refuse rfl wm_45 (r_Mod_refuse (-1) 1 (by decide) (by decide)) rfl rfl (by decide) rfl rfl (Nat.le_of_ble_eq_true rfl) ?_
    refine z_goto d_Mod_tellingOf_13 40 (by decide) ?_
    exact z_ireturn d_Mod_tellingOf_40 (by simp_all [zb_eq, zb_ne, ← Int32.not_le]) (by simp_all [zb_eq, zb_ne, rfu, ← Int32.not_le])
set_option maxHeartbeats 400000 in
theorem r_Mod_kind {K : zKK} {rf s im mt rd sc : Nat → Int32} {tl : List zC} {n : Nat} (hn : s 0 = nI n) (hn30 : n ≤ 30) (t : Int32) : Ret 5 0 0 m_Mod_kind [.ref 45, .int t] (wld K (rf, s, im, mt, rd, sc) tl) (some (.int ((if inR t (s 0) = true then kdV (s (6 + 6 * ix t + 3)) (s (6 + 6 * ix t + 4)) (s (6 + 6 * ix t + 5)) else -1)))) (wld K ((if inR t (s 0) = true then rf else rfu rf 1), s, im, mt, rd, sc) tl) := by
  refine Ret.of (n := 0) (by decide) (rfl) rfl (fun X => ?_)
  refine z_aload_n d_Mod_kind_0 rfl 1 rfl ?_
  refine z_iload_n d_Mod_kind_1 rfl 2 rfl ?_
  refine z_invv d_Mod_kind_2 5 rfl hm_Mod_isTelling lk_Mod_63 im_Mod_isTelling sl_Mod_Mod_isTelling rfl wm_45 (r_Mod_isTelling _) rfl rfl (by decide) rfl rfl (Nat.le_of_ble_eq_true rfl) ?_
  refine z_if_eq d_Mod_kind_5 16 8 (by decide) rfl (fun h1 => ?_) (fun h1 => ?_)
  · refine z_aload_n d_Mod_kind_16 rfl 17 rfl ?_
    refine z_iconst d_Mod_kind_17 (-1) (by decide) 18 rfl ?_
    refine z_invv d_Mod_kind_18 21 rfl hm_Mod_refuse lk_Mod_29 im_Mod_refuse sl_Mod_Mod_refuse rfl wm_45 (r_Mod_refuse (-1) 1 (by decide) (by decide)) rfl rfl (by decide) rfl rfl (Nat.le_of_ble_eq_true rfl) ?_
    exact z_ireturn d_Mod_kind_21 (by simp_all [zb_eq, zb_ne, ← Int32.not_le]) (by simp_all [zb_eq, zb_ne, rfu, ← Int32.not_le])
  · obtain ⟨i2, hi2, rfl⟩ := vld h1 hn (by omega)
    have hci2 : (nI i2).toNatClampNeg = i2 := nI_clamp (by omega)
    refine z_aload_n d_Mod_kind_8 rfl 9 rfl ?_
    refine z_iload_n d_Mod_kind_9 rfl 10 rfl ?_
    refine z_invv d_Mod_kind_10 13 rfl hm_Mod_kindOf lk_Mod_73 im_Mod_kindOf sl_Mod_Mod_kindOf rfl wm_45 (r_Mod_kindOf _ (i2) rfl (by omega)) rfl rfl (by decide) rfl rfl (Nat.le_of_ble_eq_true rfl) ?_
    refine z_goto d_Mod_kind_13 21 (by decide) ?_
    exact z_ireturn d_Mod_kind_21 (by simp_all [zb_eq, zb_ne, ← Int32.not_le]) (by simp_all [zb_eq, zb_ne, rfu, ← Int32.not_le])
set_option maxHeartbeats 400000 in
theorem r_Mod_weight {K : zKK} {rf s im mt rd sc : Nat → Int32} {tl : List zC} {n : Nat} (hn : s 0 = nI n) (hn30 : n ≤ 30) (t : Int32) : Ret 5 0 0 m_Mod_weight [.ref 45, .int t] (wld K (rf, s, im, mt, rd, sc) tl) (some (.int ((if inR t (s 0) = true then wtV (s (6 + 6 * ix t + 1)) (s (6 + 6 * ix t + 3)) (s (6 + 6 * ix t + 4)) (s (6 + 6 * ix t + 5)) else -1)))) (wld K ((if inR t (s 0) = true then rf else rfu rf 1), s, im, mt, rd, sc) tl) := by
  refine Ret.of (n := 0) (by decide) (rfl) rfl (fun X => ?_)
  refine z_aload_n d_Mod_weight_0 rfl 1 rfl ?_
  refine z_iload_n d_Mod_weight_1 rfl 2 rfl ?_
  refine z_invv d_Mod_weight_2 5 rfl hm_Mod_isTelling lk_Mod_63 im_Mod_isTelling sl_Mod_Mod_isTelling rfl wm_45 (r_Mod_isTelling _) rfl rfl (by decide) rfl rfl (Nat.le_of_ble_eq_true rfl) ?_
  refine z_if_eq d_Mod_weight_5 16 8 (by decide) rfl (fun h1 => ?_) (fun h1 => ?_)
  · refine z_aload_n d_Mod_weight_16 rfl 17 rfl ?_
    refine z_iconst d_Mod_weight_17 (-1) (by decide) 18 rfl ?_
    refine z_invv d_Mod_weight_18 21 rfl hm_Mod_refuse lk_Mod_29 im_Mod_refuse sl_Mod_Mod_refuse rfl wm_45 (r_Mod_refuse (-1) 1 (by decide) (by decide)) rfl rfl (by decide) rfl rfl (Nat.le_of_ble_eq_true rfl) ?_
    exact z_ireturn d_Mod_weight_21 (by simp_all [zb_eq, zb_ne, ← Int32.not_le]) (by simp_all [zb_eq, zb_ne, rfu, ← Int32.not_le])
  · obtain ⟨i2, hi2, rfl⟩ := vld h1 hn (by omega)
    have hci2 : (nI i2).toNatClampNeg = i2 := nI_clamp (by omega)
    refine z_aload_n d_Mod_weight_8 rfl 9 rfl ?_
    refine z_iload_n d_Mod_weight_9 rfl 10 rfl ?_
    refine z_invv d_Mod_weight_10 13 rfl hm_Mod_weightOf lk_Mod_76 im_Mod_weightOf sl_Mod_Mod_weightOf rfl wm_45 (r_Mod_weightOf _ (i2) rfl (by omega)) rfl rfl (by decide) rfl rfl (Nat.le_of_ble_eq_true rfl) ?_
    refine z_goto d_Mod_weight_13 21 (by decide) ?_
    exact z_ireturn d_Mod_weight_21 (by simp_all [zb_eq, zb_ne, ← Int32.not_le]) (by simp_all [zb_eq, zb_ne, rfu, ← Int32.not_le])
set_option maxHeartbeats 400000 in
theorem r_Mod_law {K : zKK} {rf s im mt rd sc : Nat → Int32} {tl : List zC} (l w v : Int32) : Ret 5 0 0 m_Mod_law [.ref 45, .int l, .int w, .int v] (wld K (rf, s, im, mt, rd, sc) tl) (some (.int ((if inR l 6 = true then (if inR w 7 = true then (if v < 0 then -4 else (if (if w < 4 then 999 else 255) < v then -6 else s (186 + 8 * ix l + ix w))) else -2) else -1)))) (wld K ((if inR l 6 = true then (if inR w 7 = true then (if v < 0 then rfu rf 4 else (if (if w < 4 then 999 else 255) < v then rfu rf 6 else rf)) else rfu rf 2) else rfu rf 1), (if inR l 6 = true then (if inR w 7 = true then (if v < 0 then s else (if (if w < 4 then 999 else 255) < v then s else upd s (186 + 8 * ix l + ix w) v)) else s) else s), im, mt, rd, sc) tl) := by
  refine Ret.of (n := 1) (by decide) (rfl) rfl (fun X => ?_)
  refine z_iload_n d_Mod_law_0 rfl 1 rfl ?_
  refine z_invs d_Mod_law_1 4 rfl hm_Mod_isLaw lk_Mod_79 st_Mod_isLaw (r_Mod_isLaw _) rfl rfl (by decide) rfl rfl (Nat.le_of_ble_eq_true rfl) ?_
  refine z_if_ne d_Mod_law_4 13 7 (by decide) rfl (fun h1 => ?_) (fun h1 => ?_)
  · obtain ⟨i2, hi2, rfl⟩ := vld h1 (n := 6) rfl (by decide)
    have hci2 : (nI i2).toNatClampNeg = i2 := nI_clamp (by omega)
    refine z_iload_n d_Mod_law_13 rfl 14 rfl ?_
    refine z_bipush d_Mod_law_14 7 (by decide) 16 rfl ?_
    refine z_invs d_Mod_law_16 19 rfl hm_Mod_isIn lk_Mod_25 st_Mod_isIn (r_Mod_isIn _ _) rfl rfl (by decide) rfl rfl (Nat.le_of_ble_eq_true rfl) ?_
    refine z_if_ne d_Mod_law_19 29 22 (by decide) rfl (fun h3 => ?_) (fun h3 => ?_)
    · obtain ⟨i4, hi4, rfl⟩ := vld h3 (n := 7) rfl (by decide)
      have hci4 : (nI i4).toNatClampNeg = i4 := nI_clamp (by omega)
      refine z_iload_n d_Mod_law_29 rfl 30 rfl ?_
      refine z_iconst d_Mod_law_30 0 (by decide) 31 rfl ?_
      refine z_iload_n d_Mod_law_31 rfl 32 rfl ?_
      refine z_iconst d_Mod_law_32 4 (by decide) 33 rfl ?_
      refine z_icmp_ge d_Mod_law_33 42 36 (by decide) rfl (fun h5 => ?_) (fun h5 => ?_)
      · refine z_sipush d_Mod_law_42 255 (by decide) 45 rfl ?_
        rcases wi_cases (v) (0) (255) with hw | ⟨hw, hv⟩ | ⟨hw, hv⟩
        · refine z_invs d_Mod_law_45 48 rfl hm_Mod_within lk_Mod_82 st_Mod_within (r_Mod_within_1 _ _ _ hw) rfl rfl (by decide) rfl rfl (Nat.le_of_ble_eq_true rfl) ?_
          refine z_istore d_Mod_law_48 50 rfl (by decide) rfl ?_
          refine z_iload d_Mod_law_50 rfl 52 rfl ?_
          refine z_if_eq d_Mod_law_52 64 55 (by decide) rfl (fun h => absurd h (by decide)) (fun h6 => ?_)
          refine z_aload_n d_Mod_law_55 rfl 56 rfl ?_
          refine z_iload d_Mod_law_56 rfl 58 rfl ?_
          refine z_invv d_Mod_law_58 61 rfl hm_Mod_refuse lk_Mod_29 im_Mod_refuse sl_Mod_Mod_refuse rfl wm_45 (r_Mod_refuse (-4) 4 (by decide) (by decide)) rfl rfl (by decide) rfl rfl (Nat.le_of_ble_eq_true rfl) ?_
          refine z_goto d_Mod_law_61 79 (by decide) ?_
          exact z_ireturn d_Mod_law_79 (by simp_all [zb_eq, zb_ne, ← Int32.not_le]) (by simp_all [zb_eq, zb_ne, rfu, ← Int32.not_le])
        · refine z_invs d_Mod_law_45 48 rfl hm_Mod_within lk_Mod_82 st_Mod_within (r_Mod_within_2 _ _ _ hw hv) rfl rfl (by decide) rfl rfl (Nat.le_of_ble_eq_true rfl) ?_
          refine z_istore d_Mod_law_48 50 rfl (by decide) rfl ?_
          refine z_iload d_Mod_law_50 rfl 52 rfl ?_
          refine z_if_eq d_Mod_law_52 64 55 (by decide) rfl (fun h => absurd h (by decide)) (fun h7 => ?_)
          refine z_aload_n d_Mod_law_55 rfl 56 rfl ?_
          refine z_iload d_Mod_law_56 rfl 58 rfl ?_
          refine z_invv d_Mod_law_58 61 rfl hm_Mod_refuse lk_Mod_29 im_Mod_refuse sl_Mod_Mod_refuse rfl wm_45 (r_Mod_refuse (-6) 6 (by decide) (by decide)) rfl rfl (by decide) rfl rfl (Nat.le_of_ble_eq_true rfl) ?_
          refine z_goto d_Mod_law_61 79 (by decide) ?_
          exact z_ireturn d_Mod_law_79 (by simp_all [zb_eq, zb_ne, ← Int32.not_le]) (by simp_all [zb_eq, zb_ne, rfu, ← Int32.not_le])
        · refine z_invs d_Mod_law_45 48 rfl hm_Mod_within lk_Mod_82 st_Mod_within (r_Mod_within_3 _ _ _ hw hv) rfl rfl (by decide) rfl rfl (Nat.le_of_ble_eq_true rfl) ?_
          refine z_istore d_Mod_law_48 50 rfl (by decide) rfl ?_
          refine z_iload d_Mod_law_50 rfl 52 rfl ?_
          refine z_if_eq d_Mod_law_52 64 55 (by decide) rfl (fun h8 => ?_) (fun h => absurd (by decide) h)
          refine z_aload_n d_Mod_law_64 rfl 65 rfl ?_
          refine z_sipush d_Mod_law_65 186 (by decide) 68 rfl ?_
          refine z_bipush d_Mod_law_68 8 (by decide) 70 rfl ?_
          refine z_iload_n d_Mod_law_70 rfl 71 rfl ?_
          refine z_imul d_Mod_law_71 72 rfl ?_
          refine z_iadd d_Mod_law_72 73 rfl ?_
          refine z_iload_n d_Mod_law_73 rfl 74 rfl ?_
          refine z_iadd d_Mod_law_74 75 rfl ?_
          refine z_iload_n d_Mod_law_75 rfl 76 rfl ?_
          refine z_invv d_Mod_law_76 79 rfl hm_Mod_becomes lk_Mod_86 im_Mod_becomes sl_Mod_Mod_becomes rfl wm_45 (r_Mod_becomes _ _ (((186 + (8 * i2)) + i4)) (by show ((nI 186 + (nI 8 * nI i2)) + nI i4) = _; simp only [pk_mul, nI_add]) (by omega)) rfl rfl (by decide) rfl rfl (Nat.le_of_ble_eq_true rfl) ?_
          exact z_ireturn d_Mod_law_79 (by simp_all [zb_eq, zb_ne, ← Int32.not_le]) (by simp_all [zb_eq, zb_ne, rfu, ← Int32.not_le])
      · refine z_sipush d_Mod_law_36 999 (by decide) 39 rfl ?_
        refine z_goto d_Mod_law_39 45 (by decide) ?_
        rcases wi_cases (v) (0) (999) with hw | ⟨hw, hv⟩ | ⟨hw, hv⟩
        · refine z_invs d_Mod_law_45 48 rfl hm_Mod_within lk_Mod_82 st_Mod_within (r_Mod_within_1 _ _ _ hw) rfl rfl (by decide) rfl rfl (Nat.le_of_ble_eq_true rfl) ?_
          refine z_istore d_Mod_law_48 50 rfl (by decide) rfl ?_
          refine z_iload d_Mod_law_50 rfl 52 rfl ?_
          refine z_if_eq d_Mod_law_52 64 55 (by decide) rfl (fun h => absurd h (by decide)) (fun h9 => ?_)
          refine z_aload_n d_Mod_law_55 rfl 56 rfl ?_
          refine z_iload d_Mod_law_56 rfl 58 rfl ?_
          refine z_invv d_Mod_law_58 61 rfl hm_Mod_refuse lk_Mod_29 im_Mod_refuse sl_Mod_Mod_refuse rfl wm_45 (r_Mod_refuse (-4) 4 (by decide) (by decide)) rfl rfl (by decide) rfl rfl (Nat.le_of_ble_eq_true rfl) ?_
          refine z_goto d_Mod_law_61 79 (by decide) ?_
          exact z_ireturn d_Mod_law_79 (by simp_all [zb_eq, zb_ne, ← Int32.not_le]) (by simp_all [zb_eq, zb_ne, rfu, ← Int32.not_le])
        · refine z_invs d_Mod_law_45 48 rfl hm_Mod_within lk_Mod_82 st_Mod_within (r_Mod_within_2 _ _ _ hw hv) rfl rfl (by decide) rfl rfl (Nat.le_of_ble_eq_true rfl) ?_
          refine z_istore d_Mod_law_48 50 rfl (by decide) rfl ?_
          refine z_iload d_Mod_law_50 rfl 52 rfl ?_
          refine z_if_eq d_Mod_law_52 64 55 (by decide) rfl (fun h => absurd h (by decide)) (fun h10 => ?_)
          refine z_aload_n d_Mod_law_55 rfl 56 rfl ?_
          refine z_iload d_Mod_law_56 rfl 58 rfl ?_
          refine z_invv d_Mod_law_58 61 rfl hm_Mod_refuse lk_Mod_29 im_Mod_refuse sl_Mod_Mod_refuse rfl wm_45 (r_Mod_refuse (-6) 6 (by decide) (by decide)) rfl rfl (by decide) rfl rfl (Nat.le_of_ble_eq_true rfl) ?_
          refine z_goto d_Mod_law_61 79 (by decide) ?_
          exact z_ireturn d_Mod_law_79 (by simp_all [zb_eq, zb_ne, ← Int32.not_le]) (by simp_all [zb_eq, zb_ne, rfu, ← Int32.not_le])
        · refine z_invs d_Mod_law_45 48 rfl hm_Mod_within lk_Mod_82 st_Mod_within (r_Mod_within_3 _ _ _ hw hv) rfl rfl (by decide) rfl rfl (Nat.le_of_ble_eq_true rfl) ?_
          refine z_istore d_Mod_law_48 50 rfl (by decide) rfl ?_
          refine z_iload d_Mod_law_50 rfl 52 rfl ?_
          refine z_if_eq d_Mod_law_52 64 55 (by decide) rfl (fun h11 => ?_) (fun h => absurd (by decide) h)
          refine z_aload_n d_Mod_law_64 rfl 65 rfl ?_
          refine z_sipush d_Mod_law_65 186 (by decide) 68 rfl ?_
          refine z_bipush d_Mod_law_68 8 (by decide) 70 rfl ?_
          refine z_iload_n d_Mod_law_70 rfl 71 rfl ?_
          refine z_imul d_Mod_law_71 72 rfl ?_
          refine z_iadd d_Mod_law_72 73 rfl ?_
          refine z_iload_n d_Mod_law_73 rfl 74 rfl ?_
          refine z_iadd d_Mod_law_74 75 rfl ?_
          refine z_iload_n d_Mod_law_75 rfl 76 rfl ?_
          refine z_invv d_Mod_law_76 79 rfl hm_Mod_becomes lk_Mod_86 im_Mod_becomes sl_Mod_Mod_becomes rfl wm_45 (r_Mod_becomes _ _ (((186 + (8 * i2)) + i4)) (by show ((nI 186 + (nI 8 * nI i2)) + nI i4) = _; simp only [pk_mul, nI_add]) (by omega)) rfl rfl (by decide) rfl rfl (Nat.le_of_ble_eq_true rfl) ?_
          exact z_ireturn d_Mod_law_79 (by simp_all [zb_eq, zb_ne, ← Int32.not_le]) (by simp_all [zb_eq, zb_ne, rfu, ← Int32.not_le])
    · refine z_aload_n d_Mod_law_22 rfl 23 rfl ?_
      refine z_bipush d_Mod_law_23 (-2) (by decide) 25 rfl ?_
      refine z_invv d_Mod_law_25 28 rfl hm_Mod_refuse lk_Mod_29 im_Mod_refuse sl_Mod_Mod_refuse rfl wm_45 (r_Mod_refuse (-2) 2 (by decide) (by decide)) rfl rfl (by decide) rfl rfl (Nat.le_of_ble_eq_true rfl) ?_
      exact z_ireturn d_Mod_law_28 (by simp_all [zb_eq, zb_ne, ← Int32.not_le]) (by simp_all [zb_eq, zb_ne, rfu, ← Int32.not_le])
  · refine z_aload_n d_Mod_law_7 rfl 8 rfl ?_
    refine z_iconst d_Mod_law_8 (-1) (by decide) 9 rfl ?_
    refine z_invv d_Mod_law_9 12 rfl hm_Mod_refuse lk_Mod_29 im_Mod_refuse sl_Mod_Mod_refuse rfl wm_45 (r_Mod_refuse (-1) 1 (by decide) (by decide)) rfl rfl (by decide) rfl rfl (Nat.le_of_ble_eq_true rfl) ?_
    exact z_ireturn d_Mod_law_12 (by simp_all [zb_eq, zb_ne, ← Int32.not_le]) (by simp_all [zb_eq, zb_ne, rfu, ← Int32.not_le])
set_option maxHeartbeats 400000 in
theorem r_Mod_right {K : zKK} {rf s im mt rd sc : Nat → Int32} {tl : List zC} (b : Int32) : Ret 5 0 0 m_Mod_right [.ref 45, .int b] (wld K (rf, s, im, mt, rd, sc) tl) (some (.int ((if s 2 = (if b = 0 then 0 else 1) then 0 else 1)))) (wld K (rf, upd s 2 (if b = 0 then 0 else 1), im, mt, rd, sc) tl) := by
  refine Ret.of (n := 1) (by decide) (rfl) rfl (fun X => ?_)
  refine z_aload_n d_Mod_right_0 rfl 1 rfl ?_
  refine z_iconst d_Mod_right_1 2 (by decide) 2 rfl ?_
  refine z_iload_n d_Mod_right_2 rfl 3 rfl ?_
  refine z_if_eq d_Mod_right_3 10 6 (by decide) rfl (fun h1 => ?_) (fun h1 => ?_)
  · refine z_iconst d_Mod_right_10 0 (by decide) 11 rfl ?_
    refine z_invv d_Mod_right_11 14 rfl hm_Mod_becomes lk_Mod_86 im_Mod_becomes sl_Mod_Mod_becomes rfl wm_45 (r_Mod_becomes _ _ (2) (rfl) (by omega)) rfl rfl (by decide) rfl rfl (Nat.le_of_ble_eq_true rfl) ?_
    refine z_istore_n d_Mod_right_14 15 rfl (by decide) rfl ?_
    refine z_iload_n d_Mod_right_15 rfl 16 rfl ?_
    refine z_iload_n d_Mod_right_16 rfl 17 rfl ?_
    refine z_if_eq d_Mod_right_17 24 20 (by decide) rfl (fun h2 => ?_) (fun h2 => ?_)
    · refine z_iconst d_Mod_right_24 0 (by decide) 25 rfl ?_
      refine z_icmp_ne d_Mod_right_25 32 28 (by decide) rfl (fun h3 => ?_) (fun h3 => ?_)
      · refine z_iconst d_Mod_right_32 1 (by decide) 33 rfl ?_
        exact z_ireturn d_Mod_right_33 (by simp_all [zb_eq, zb_ne, ← Int32.not_le]) (by simp_all [zb_eq, zb_ne, rfu, ← Int32.not_le])
      · refine z_iconst d_Mod_right_28 0 (by decide) 29 rfl ?_
        refine z_goto d_Mod_right_29 33 (by decide) ?_
        exact z_ireturn d_Mod_right_33 (by simp_all [zb_eq, zb_ne, ← Int32.not_le]) (by simp_all [zb_eq, zb_ne, rfu, ← Int32.not_le])
    · refine z_iconst d_Mod_right_20 1 (by decide) 21 rfl ?_
      refine z_goto d_Mod_right_21 25 (by decide) ?_
      refine z_icmp_ne d_Mod_right_25 32 28 (by decide) rfl (fun h4 => ?_) (fun h4 => ?_)
      · refine z_iconst d_Mod_right_32 1 (by decide) 33 rfl ?_
        exact z_ireturn d_Mod_right_33 (by simp_all [zb_eq, zb_ne, ← Int32.not_le]) (by simp_all [zb_eq, zb_ne, rfu, ← Int32.not_le])
      · refine z_iconst d_Mod_right_28 0 (by decide) 29 rfl ?_
        refine z_goto d_Mod_right_29 33 (by decide) ?_
        exact z_ireturn d_Mod_right_33 (by simp_all [zb_eq, zb_ne, ← Int32.not_le]) (by simp_all [zb_eq, zb_ne, rfu, ← Int32.not_le])
  · refine z_iconst d_Mod_right_6 1 (by decide) 7 rfl ?_
    refine z_goto d_Mod_right_7 11 (by decide) ?_
    refine z_invv d_Mod_right_11 14 rfl hm_Mod_becomes lk_Mod_86 im_Mod_becomes sl_Mod_Mod_becomes rfl wm_45 (r_Mod_becomes _ _ (2) (rfl) (by omega)) rfl rfl (by decide) rfl rfl (Nat.le_of_ble_eq_true rfl) ?_
    refine z_istore_n d_Mod_right_14 15 rfl (by decide) rfl ?_
    refine z_iload_n d_Mod_right_15 rfl 16 rfl ?_
    refine z_iload_n d_Mod_right_16 rfl 17 rfl ?_
    refine z_if_eq d_Mod_right_17 24 20 (by decide) rfl (fun h5 => ?_) (fun h5 => ?_)
    · refine z_iconst d_Mod_right_24 0 (by decide) 25 rfl ?_
      refine z_icmp_ne d_Mod_right_25 32 28 (by decide) rfl (fun h6 => ?_) (fun h6 => ?_)
      · refine z_iconst d_Mod_right_32 1 (by decide) 33 rfl ?_
        exact z_ireturn d_Mod_right_33 (by simp_all [zb_eq, zb_ne, ← Int32.not_le]) (by simp_all [zb_eq, zb_ne, rfu, ← Int32.not_le])
      · refine z_iconst d_Mod_right_28 0 (by decide) 29 rfl ?_
        refine z_goto d_Mod_right_29 33 (by decide) ?_
        exact z_ireturn d_Mod_right_33 (by simp_all [zb_eq, zb_ne, ← Int32.not_le]) (by simp_all [zb_eq, zb_ne, rfu, ← Int32.not_le])
    · refine z_iconst d_Mod_right_20 1 (by decide) 21 rfl ?_
      refine z_goto d_Mod_right_21 25 (by decide) ?_
      refine z_icmp_ne d_Mod_right_25 32 28 (by decide) rfl (fun h7 => ?_) (fun h7 => ?_)
      · refine z_iconst d_Mod_right_32 1 (by decide) 33 rfl ?_
        exact z_ireturn d_Mod_right_33 (by simp_all [zb_eq, zb_ne, ← Int32.not_le]) (by simp_all [zb_eq, zb_ne, rfu, ← Int32.not_le])
      · refine z_iconst d_Mod_right_28 0 (by decide) 29 rfl ?_
        refine z_goto d_Mod_right_29 33 (by decide) ?_
        exact z_ireturn d_Mod_right_33 (by simp_all [zb_eq, zb_ne, ← Int32.not_le]) (by simp_all [zb_eq, zb_ne, rfu, ← Int32.not_le])
set_option maxHeartbeats 400000 in
theorem r_Mod_growth {K : zKK} {rf s im mt rd sc : Nat → Int32} {tl : List zC} (w v : Int32) : Ret 5 0 0 m_Mod_growth [.ref 45, .int w, .int v] (wld K (rf, s, im, mt, rd, sc) tl) (some (.int ((if inR w 2 = true then (if v < 0 then -4 else (if 50 < v then -6 else s (4 + ix w))) else -2)))) (wld K ((if inR w 2 = true then (if v < 0 then rfu rf 4 else (if 50 < v then rfu rf 6 else rf)) else rfu rf 2), (if inR w 2 = true then (if v < 0 then s else (if 50 < v then s else upd s (4 + ix w) v)) else s), im, mt, rd, sc) tl) := by
  refine Ret.of (n := 1) (by decide) (rfl) rfl (fun X => ?_)
  refine z_iload_n d_Mod_growth_0 rfl 1 rfl ?_
  refine z_iconst d_Mod_growth_1 2 (by decide) 2 rfl ?_
  refine z_invs d_Mod_growth_2 5 rfl hm_Mod_isIn lk_Mod_25 st_Mod_isIn (r_Mod_isIn _ _) rfl rfl (by decide) rfl rfl (Nat.le_of_ble_eq_true rfl) ?_
  refine z_if_ne d_Mod_growth_5 15 8 (by decide) rfl (fun h1 => ?_) (fun h1 => ?_)
  · obtain ⟨i2, hi2, rfl⟩ := vld h1 (n := 2) rfl (by decide)
    have hci2 : (nI i2).toNatClampNeg = i2 := nI_clamp (by omega)
    refine z_iload_n d_Mod_growth_15 rfl 16 rfl ?_
    refine z_iconst d_Mod_growth_16 0 (by decide) 17 rfl ?_
    refine z_bipush d_Mod_growth_17 50 (by decide) 19 rfl ?_
    rcases wi_cases (v) (0) (50) with hw | ⟨hw, hv⟩ | ⟨hw, hv⟩
    · refine z_invs d_Mod_growth_19 22 rfl hm_Mod_within lk_Mod_82 st_Mod_within (r_Mod_within_1 _ _ _ hw) rfl rfl (by decide) rfl rfl (Nat.le_of_ble_eq_true rfl) ?_
      refine z_istore_n d_Mod_growth_22 23 rfl (by decide) rfl ?_
      refine z_iload_n d_Mod_growth_23 rfl 24 rfl ?_
      refine z_if_eq d_Mod_growth_24 35 27 (by decide) rfl (fun h => absurd h (by decide)) (fun h3 => ?_)
      refine z_aload_n d_Mod_growth_27 rfl 28 rfl ?_
      refine z_iload_n d_Mod_growth_28 rfl 29 rfl ?_
      refine z_invv d_Mod_growth_29 32 rfl hm_Mod_refuse lk_Mod_29 im_Mod_refuse sl_Mod_Mod_refuse rfl wm_45 (r_Mod_refuse (-4) 4 (by decide) (by decide)) rfl rfl (by decide) rfl rfl (Nat.le_of_ble_eq_true rfl) ?_
      refine z_goto d_Mod_growth_32 43 (by decide) ?_
      exact z_ireturn d_Mod_growth_43 (by simp_all [zb_eq, zb_ne, ← Int32.not_le]) (by simp_all [zb_eq, zb_ne, rfu, ← Int32.not_le])
    · refine z_invs d_Mod_growth_19 22 rfl hm_Mod_within lk_Mod_82 st_Mod_within (r_Mod_within_2 _ _ _ hw hv) rfl rfl (by decide) rfl rfl (Nat.le_of_ble_eq_true rfl) ?_
      refine z_istore_n d_Mod_growth_22 23 rfl (by decide) rfl ?_
      refine z_iload_n d_Mod_growth_23 rfl 24 rfl ?_
      refine z_if_eq d_Mod_growth_24 35 27 (by decide) rfl (fun h => absurd h (by decide)) (fun h4 => ?_)
      refine z_aload_n d_Mod_growth_27 rfl 28 rfl ?_
      refine z_iload_n d_Mod_growth_28 rfl 29 rfl ?_
      refine z_invv d_Mod_growth_29 32 rfl hm_Mod_refuse lk_Mod_29 im_Mod_refuse sl_Mod_Mod_refuse rfl wm_45 (r_Mod_refuse (-6) 6 (by decide) (by decide)) rfl rfl (by decide) rfl rfl (Nat.le_of_ble_eq_true rfl) ?_
      refine z_goto d_Mod_growth_32 43 (by decide) ?_
      exact z_ireturn d_Mod_growth_43 (by simp_all [zb_eq, zb_ne, ← Int32.not_le]) (by simp_all [zb_eq, zb_ne, rfu, ← Int32.not_le])
    · refine z_invs d_Mod_growth_19 22 rfl hm_Mod_within lk_Mod_82 st_Mod_within (r_Mod_within_3 _ _ _ hw hv) rfl rfl (by decide) rfl rfl (Nat.le_of_ble_eq_true rfl) ?_
      refine z_istore_n d_Mod_growth_22 23 rfl (by decide) rfl ?_
      refine z_iload_n d_Mod_growth_23 rfl 24 rfl ?_
      refine z_if_eq d_Mod_growth_24 35 27 (by decide) rfl (fun h5 => ?_) (fun h => absurd (by decide) h)
      refine z_aload_n d_Mod_growth_35 rfl 36 rfl ?_
      refine z_iconst d_Mod_growth_36 4 (by decide) 37 rfl ?_
      refine z_iload_n d_Mod_growth_37 rfl 38 rfl ?_
      refine z_iadd d_Mod_growth_38 39 rfl ?_
      refine z_iload_n d_Mod_growth_39 rfl 40 rfl ?_
      refine z_invv d_Mod_growth_40 43 rfl hm_Mod_becomes lk_Mod_86 im_Mod_becomes sl_Mod_Mod_becomes rfl wm_45 (r_Mod_becomes _ _ ((4 + i2)) (by show (nI 4 + nI i2) = _; simp only [pk_mul, nI_add]) (by omega)) rfl rfl (by decide) rfl rfl (Nat.le_of_ble_eq_true rfl) ?_
      exact z_ireturn d_Mod_growth_43 (by simp_all [zb_eq, zb_ne, ← Int32.not_le]) (by simp_all [zb_eq, zb_ne, rfu, ← Int32.not_le])
  · refine z_aload_n d_Mod_growth_8 rfl 9 rfl ?_
    refine z_bipush d_Mod_growth_9 (-2) (by decide) 11 rfl ?_
    refine z_invv d_Mod_growth_11 14 rfl hm_Mod_refuse lk_Mod_29 im_Mod_refuse sl_Mod_Mod_refuse rfl wm_45 (r_Mod_refuse (-2) 2 (by decide) (by decide)) rfl rfl (by decide) rfl rfl (Nat.le_of_ble_eq_true rfl) ?_
    exact z_ireturn d_Mod_growth_14 (by simp_all [zb_eq, zb_ne, ← Int32.not_le]) (by simp_all [zb_eq, zb_ne, rfu, ← Int32.not_le])
set_option maxHeartbeats 400000 in
theorem r_Mod_put {K : zKK} {rf s im mt rd sc : Nat → Int32} {tl : List zC} {n : Nat} (hn : s 0 = nI n) (hn30 : n ≤ 30) (hz0 : NZ s n) (t w : Int32) : Ret 5 0 0 m_Mod_put [.ref 45, .int t, .int w] (wld K (rf, s, im, mt, rd, sc) tl) (some (.int ((if inR t (s 0) = true then (if inR w 2 = true then rtV (s (6 + 6 * ix t + ix w)) (s (4 + ix w)) (s (6 + 6 * ix t + 4)) else -2) else -1)))) (wld K ((if inR t (s 0) = true then (if inR w 2 = true then rf else rfu rf 2) else rfu rf 1), s, im, mt, rd, sc) tl) := by
  refine Ret.of (n := 0) (by decide) (rfl) rfl (fun X => ?_)
  refine z_aload_n d_Mod_put_0 rfl 1 rfl ?_
  refine z_iload_n d_Mod_put_1 rfl 2 rfl ?_
  refine z_invv d_Mod_put_2 5 rfl hm_Mod_isTelling lk_Mod_63 im_Mod_isTelling sl_Mod_Mod_isTelling rfl wm_45 (r_Mod_isTelling _) rfl rfl (by decide) rfl rfl (Nat.le_of_ble_eq_true rfl) ?_
  refine z_if_ne d_Mod_put_5 16 8 (by decide) rfl (fun h1 => ?_) (fun h1 => ?_)
  · obtain ⟨i2, hi2, rfl⟩ := vld h1 hn (by omega)
    have hci2 : (nI i2).toNatClampNeg = i2 := nI_clamp (by omega)
    refine z_iload_n d_Mod_put_16 rfl 17 rfl ?_
    refine z_iconst d_Mod_put_17 2 (by decide) 18 rfl ?_
    refine z_invs d_Mod_put_18 21 rfl hm_Mod_isIn lk_Mod_25 st_Mod_isIn (r_Mod_isIn _ _) rfl rfl (by decide) rfl rfl (Nat.le_of_ble_eq_true rfl) ?_
    refine z_if_eq d_Mod_put_21 33 24 (by decide) rfl (fun h3 => ?_) (fun h3 => ?_)
    · refine z_aload_n d_Mod_put_33 rfl 34 rfl ?_
      refine z_bipush d_Mod_put_34 (-2) (by decide) 36 rfl ?_
      refine z_invv d_Mod_put_36 39 rfl hm_Mod_refuse lk_Mod_29 im_Mod_refuse sl_Mod_Mod_refuse rfl wm_45 (r_Mod_refuse (-2) 2 (by decide) (by decide)) rfl rfl (by decide) rfl rfl (Nat.le_of_ble_eq_true rfl) ?_
      exact z_ireturn d_Mod_put_39 (by simp_all [zb_eq, zb_ne, ← Int32.not_le]) (by simp_all [zb_eq, zb_ne, rfu, ← Int32.not_le])
    · obtain ⟨i4, hi4, rfl⟩ := vld h3 (n := 2) rfl (by decide)
      have hci4 : (nI i4).toNatClampNeg = i4 := nI_clamp (by omega)
      refine z_aload_n d_Mod_put_24 rfl 25 rfl ?_
      refine z_iload_n d_Mod_put_25 rfl 26 rfl ?_
      refine z_iload_n d_Mod_put_26 rfl 27 rfl ?_
      refine z_invv d_Mod_put_27 30 rfl hm_Mod_rightOf lk_Mod_89 im_Mod_rightOf sl_Mod_Mod_rightOf rfl wm_45 (r_Mod_rightOf _ _ (i2) (i4) rfl rfl (by omega) (by omega) (hz0 _ (by omega) _ (by omega))) rfl rfl (by decide) rfl rfl (Nat.le_of_ble_eq_true rfl) ?_
      refine z_goto d_Mod_put_30 39 (by decide) ?_
      exact z_ireturn d_Mod_put_39 (by simp_all [zb_eq, zb_ne, ← Int32.not_le]) (by simp_all [zb_eq, zb_ne, rfu, ← Int32.not_le])
  · refine z_aload_n d_Mod_put_8 rfl 9 rfl ?_
    refine z_iconst d_Mod_put_9 (-1) (by decide) 10 rfl ?_
    refine z_invv d_Mod_put_10 13 rfl hm_Mod_refuse lk_Mod_29 im_Mod_refuse sl_Mod_Mod_refuse rfl wm_45 (r_Mod_refuse (-1) 1 (by decide) (by decide)) rfl rfl (by decide) rfl rfl (Nat.le_of_ble_eq_true rfl) ?_
    refine z_goto d_Mod_put_13 39 (by decide) ?_
    exact z_ireturn d_Mod_put_39 (by simp_all [zb_eq, zb_ne, ← Int32.not_le]) (by simp_all [zb_eq, zb_ne, rfu, ← Int32.not_le])
set_option maxHeartbeats 400000 in
theorem r_Mod_fits {K : zKK} {rf s im mt rd sc : Nat → Int32} {tl : List zC} {n : Nat} (hn : s 0 = nI n) (hn30 : n ≤ 30) (hz0 : NZ s n) (t l : Int32) : Ret 5 0 0 m_Mod_fits [.ref 45, .int t, .int l] (wld K (rf, s, im, mt, rd, sc) tl) (some (.int ((if inR t (s 0) = true then (if inR l 6 = true then (if fit s (ix t) (ix l) 0 = true then 1 else 0) else -1) else -1)))) (wld K ((if inR t (s 0) = true then (if inR l 6 = true then rf else rfu rf 1) else rfu rf 1), s, im, mt, rd, sc) tl) := by
  refine Ret.of (n := 0) (by decide) (rfl) rfl (fun X => ?_)
  refine z_aload_n d_Mod_fits_0 rfl 1 rfl ?_
  refine z_iload_n d_Mod_fits_1 rfl 2 rfl ?_
  refine z_invv d_Mod_fits_2 5 rfl hm_Mod_isTelling lk_Mod_63 im_Mod_isTelling sl_Mod_Mod_isTelling rfl wm_45 (r_Mod_isTelling _) rfl rfl (by decide) rfl rfl (Nat.le_of_ble_eq_true rfl) ?_
  refine z_if_eq d_Mod_fits_5 15 8 (by decide) rfl (fun h1 => ?_) (fun h1 => ?_)
  · refine z_aload_n d_Mod_fits_15 rfl 16 rfl ?_
    refine z_iconst d_Mod_fits_16 (-1) (by decide) 17 rfl ?_
    refine z_invv d_Mod_fits_17 20 rfl hm_Mod_refuse lk_Mod_29 im_Mod_refuse sl_Mod_Mod_refuse rfl wm_45 (r_Mod_refuse (-1) 1 (by decide) (by decide)) rfl rfl (by decide) rfl rfl (Nat.le_of_ble_eq_true rfl) ?_
    refine z_goto d_Mod_fits_20 38 (by decide) ?_
    exact z_ireturn d_Mod_fits_38 (by simp_all [zb_eq, zb_ne, ← Int32.not_le]) (by simp_all [zb_eq, zb_ne, rfu, ← Int32.not_le])
  · obtain ⟨i2, hi2, rfl⟩ := vld h1 hn (by omega)
    have hci2 : (nI i2).toNatClampNeg = i2 := nI_clamp (by omega)
    refine z_iload_n d_Mod_fits_8 rfl 9 rfl ?_
    refine z_invs d_Mod_fits_9 12 rfl hm_Mod_isLaw lk_Mod_79 st_Mod_isLaw (r_Mod_isLaw _) rfl rfl (by decide) rfl rfl (Nat.le_of_ble_eq_true rfl) ?_
    refine z_if_ne d_Mod_fits_12 23 15 (by decide) rfl (fun h3 => ?_) (fun h3 => ?_)
    · obtain ⟨i4, hi4, rfl⟩ := vld h3 (n := 6) rfl (by decide)
      have hci4 : (nI i4).toNatClampNeg = i4 := nI_clamp (by omega)
      refine z_aload_n d_Mod_fits_23 rfl 24 rfl ?_
      refine z_iload_n d_Mod_fits_24 rfl 25 rfl ?_
      refine z_iload_n d_Mod_fits_25 rfl 26 rfl ?_
      refine z_iconst d_Mod_fits_26 0 (by decide) 27 rfl ?_
      refine z_invv d_Mod_fits_27 30 rfl hm_Mod_isFit lk_Mod_96 im_Mod_isFit sl_Mod_Mod_isFit rfl wm_45 (r_Mod_isFit _ _ _ (i2) (i4) rfl rfl (by omega) (by omega) (hz0 _ (by omega))) rfl rfl (by decide) rfl rfl (Nat.le_of_ble_eq_true rfl) ?_
      refine z_if_eq d_Mod_fits_30 37 33 (by decide) rfl (fun h5 => ?_) (fun h5 => ?_)
      · refine z_iconst d_Mod_fits_37 0 (by decide) 38 rfl ?_
        exact z_ireturn d_Mod_fits_38 (by simp_all [zb_eq, zb_ne, ← Int32.not_le]) (by simp_all [zb_eq, zb_ne, rfu, ← Int32.not_le])
      · refine z_iconst d_Mod_fits_33 1 (by decide) 34 rfl ?_
        refine z_goto d_Mod_fits_34 38 (by decide) ?_
        exact z_ireturn d_Mod_fits_38 (by simp_all [zb_eq, zb_ne, ← Int32.not_le]) (by simp_all [zb_eq, zb_ne, rfu, ← Int32.not_le])
    · refine z_aload_n d_Mod_fits_15 rfl 16 rfl ?_
      refine z_iconst d_Mod_fits_16 (-1) (by decide) 17 rfl ?_
      refine z_invv d_Mod_fits_17 20 rfl hm_Mod_refuse lk_Mod_29 im_Mod_refuse sl_Mod_Mod_refuse rfl wm_45 (r_Mod_refuse (-1) 1 (by decide) (by decide)) rfl rfl (by decide) rfl rfl (Nat.le_of_ble_eq_true rfl) ?_
      refine z_goto d_Mod_fits_20 38 (by decide) ?_
      exact z_ireturn d_Mod_fits_38 (by simp_all [zb_eq, zb_ne, ← Int32.not_le]) (by simp_all [zb_eq, zb_ne, rfu, ← Int32.not_le])
set_option maxHeartbeats 400000 in
theorem r_Mod_people {K : zKK} {rf s im mt rd sc : Nat → Int32} {tl : List zC} (r v : Int32) : Ret 5 0 0 m_Mod_people [.ref 45, .int r, .int v] (wld K (rf, s, im, mt, rd, sc) tl) (some (.int ((if inR r 10 = true then (if v < 0 then -4 else (if 999 < v then -6 else s (254 + ix r))) else -1)))) (wld K ((if inR r 10 = true then (if v < 0 then rfu rf 4 else (if 999 < v then rfu rf 6 else rf)) else rfu rf 1), (if inR r 10 = true then (if v < 0 then s else (if 999 < v then s else upd s (254 + ix r) v)) else s), im, mt, rd, sc) tl) := by
  refine Ret.of (n := 1) (by decide) (rfl) rfl (fun X => ?_)
  refine z_iload_n d_Mod_people_0 rfl 1 rfl ?_
  refine z_bipush d_Mod_people_1 10 (by decide) 3 rfl ?_
  refine z_invs d_Mod_people_3 6 rfl hm_Mod_isIn lk_Mod_25 st_Mod_isIn (r_Mod_isIn _ _) rfl rfl (by decide) rfl rfl (Nat.le_of_ble_eq_true rfl) ?_
  refine z_if_eq d_Mod_people_6 20 9 (by decide) rfl (fun h1 => ?_) (fun h1 => ?_)
  · refine z_iconst d_Mod_people_20 (-1) (by decide) 21 rfl ?_
    refine z_istore_n d_Mod_people_21 22 rfl (by decide) rfl ?_
    refine z_iload_n d_Mod_people_22 rfl 23 rfl ?_
    refine z_if_eq d_Mod_people_23 34 26 (by decide) rfl (fun h => absurd h (by decide)) (fun h2 => ?_)
    refine z_aload_n d_Mod_people_26 rfl 27 rfl ?_
    refine z_iload_n d_Mod_people_27 rfl 28 rfl ?_
    refine z_invv d_Mod_people_28 31 rfl hm_Mod_refuse lk_Mod_29 im_Mod_refuse sl_Mod_Mod_refuse rfl wm_45 (r_Mod_refuse (-1) 1 (by decide) (by decide)) rfl rfl (by decide) rfl rfl (Nat.le_of_ble_eq_true rfl) ?_
    refine z_goto d_Mod_people_31 44 (by decide) ?_
    exact z_ireturn d_Mod_people_44 (by simp_all [zb_eq, zb_ne, ← Int32.not_le]) (by simp_all [zb_eq, zb_ne, rfu, ← Int32.not_le])
  · obtain ⟨i3, hi3, rfl⟩ := vld h1 (n := 10) rfl (by decide)
    have hci3 : (nI i3).toNatClampNeg = i3 := nI_clamp (by omega)
    refine z_iload_n d_Mod_people_9 rfl 10 rfl ?_
    refine z_iconst d_Mod_people_10 0 (by decide) 11 rfl ?_
    refine z_sipush d_Mod_people_11 999 (by decide) 14 rfl ?_
    rcases wi_cases (v) (0) (999) with hw | ⟨hw, hv⟩ | ⟨hw, hv⟩
    · refine z_invs d_Mod_people_14 17 rfl hm_Mod_within lk_Mod_82 st_Mod_within (r_Mod_within_1 _ _ _ hw) rfl rfl (by decide) rfl rfl (Nat.le_of_ble_eq_true rfl) ?_
      refine z_goto d_Mod_people_17 21 (by decide) ?_
      refine z_istore_n d_Mod_people_21 22 rfl (by decide) rfl ?_
      refine z_iload_n d_Mod_people_22 rfl 23 rfl ?_
      refine z_if_eq d_Mod_people_23 34 26 (by decide) rfl (fun h => absurd h (by decide)) (fun h4 => ?_)
      refine z_aload_n d_Mod_people_26 rfl 27 rfl ?_
      refine z_iload_n d_Mod_people_27 rfl 28 rfl ?_
      refine z_invv d_Mod_people_28 31 rfl hm_Mod_refuse lk_Mod_29 im_Mod_refuse sl_Mod_Mod_refuse rfl wm_45 (r_Mod_refuse (-4) 4 (by decide) (by decide)) rfl rfl (by decide) rfl rfl (Nat.le_of_ble_eq_true rfl) ?_
      refine z_goto d_Mod_people_31 44 (by decide) ?_
      exact z_ireturn d_Mod_people_44 (by simp_all [zb_eq, zb_ne, ← Int32.not_le]) (by simp_all [zb_eq, zb_ne, rfu, ← Int32.not_le])
    · refine z_invs d_Mod_people_14 17 rfl hm_Mod_within lk_Mod_82 st_Mod_within (r_Mod_within_2 _ _ _ hw hv) rfl rfl (by decide) rfl rfl (Nat.le_of_ble_eq_true rfl) ?_
      refine z_goto d_Mod_people_17 21 (by decide) ?_
      refine z_istore_n d_Mod_people_21 22 rfl (by decide) rfl ?_
      refine z_iload_n d_Mod_people_22 rfl 23 rfl ?_
      refine z_if_eq d_Mod_people_23 34 26 (by decide) rfl (fun h => absurd h (by decide)) (fun h5 => ?_)
      refine z_aload_n d_Mod_people_26 rfl 27 rfl ?_
      refine z_iload_n d_Mod_people_27 rfl 28 rfl ?_
      refine z_invv d_Mod_people_28 31 rfl hm_Mod_refuse lk_Mod_29 im_Mod_refuse sl_Mod_Mod_refuse rfl wm_45 (r_Mod_refuse (-6) 6 (by decide) (by decide)) rfl rfl (by decide) rfl rfl (Nat.le_of_ble_eq_true rfl) ?_
      refine z_goto d_Mod_people_31 44 (by decide) ?_
      exact z_ireturn d_Mod_people_44 (by simp_all [zb_eq, zb_ne, ← Int32.not_le]) (by simp_all [zb_eq, zb_ne, rfu, ← Int32.not_le])
    · refine z_invs d_Mod_people_14 17 rfl hm_Mod_within lk_Mod_82 st_Mod_within (r_Mod_within_3 _ _ _ hw hv) rfl rfl (by decide) rfl rfl (Nat.le_of_ble_eq_true rfl) ?_
      refine z_goto d_Mod_people_17 21 (by decide) ?_
      refine z_istore_n d_Mod_people_21 22 rfl (by decide) rfl ?_
      refine z_iload_n d_Mod_people_22 rfl 23 rfl ?_
      refine z_if_eq d_Mod_people_23 34 26 (by decide) rfl (fun h6 => ?_) (fun h => absurd (by decide) h)
      refine z_aload_n d_Mod_people_34 rfl 35 rfl ?_
      refine z_sipush d_Mod_people_35 254 (by decide) 38 rfl ?_
      refine z_iload_n d_Mod_people_38 rfl 39 rfl ?_
      refine z_iadd d_Mod_people_39 40 rfl ?_
      refine z_iload_n d_Mod_people_40 rfl 41 rfl ?_
      refine z_invv d_Mod_people_41 44 rfl hm_Mod_becomes lk_Mod_86 im_Mod_becomes sl_Mod_Mod_becomes rfl wm_45 (r_Mod_becomes _ _ ((254 + i3)) (by show (nI 254 + nI i3) = _; simp only [pk_mul, nI_add]) (by omega)) rfl rfl (by decide) rfl rfl (Nat.le_of_ble_eq_true rfl) ?_
      exact z_ireturn d_Mod_people_44 (by simp_all [zb_eq, zb_ne, ← Int32.not_le]) (by simp_all [zb_eq, zb_ne, rfu, ← Int32.not_le])
set_option maxHeartbeats 400000 in
theorem r_Mod_strokes {K : zKK} {rf s im mt rd sc : Nat → Int32} {tl : List zC} (v : Int32) : Ret 5 0 0 m_Mod_strokes [.ref 45, .int v] (wld K (rf, s, im, mt, rd, sc) tl) (some (.int ((if v < 0 then -4 else (if 99 < v then -6 else s 3))))) (wld K ((if v < 0 then rfu rf 4 else (if 99 < v then rfu rf 6 else rf)), (if v < 0 then s else (if 99 < v then s else upd s 3 v)), im, mt, rd, sc) tl) := by
  refine Ret.of (n := 1) (by decide) (rfl) rfl (fun X => ?_)
  refine z_iload_n d_Mod_strokes_0 rfl 1 rfl ?_
  refine z_iconst d_Mod_strokes_1 0 (by decide) 2 rfl ?_
  refine z_bipush d_Mod_strokes_2 99 (by decide) 4 rfl ?_
  rcases wi_cases (v) (0) (99) with hw | ⟨hw, hv⟩ | ⟨hw, hv⟩
  · refine z_invs d_Mod_strokes_4 7 rfl hm_Mod_within lk_Mod_82 st_Mod_within (r_Mod_within_1 _ _ _ hw) rfl rfl (by decide) rfl rfl (Nat.le_of_ble_eq_true rfl) ?_
    refine z_istore_n d_Mod_strokes_7 8 rfl (by decide) rfl ?_
    refine z_iload_n d_Mod_strokes_8 rfl 9 rfl ?_
    refine z_if_eq d_Mod_strokes_9 20 12 (by decide) rfl (fun h => absurd h (by decide)) (fun h1 => ?_)
    refine z_aload_n d_Mod_strokes_12 rfl 13 rfl ?_
    refine z_iload_n d_Mod_strokes_13 rfl 14 rfl ?_
    refine z_invv d_Mod_strokes_14 17 rfl hm_Mod_refuse lk_Mod_29 im_Mod_refuse sl_Mod_Mod_refuse rfl wm_45 (r_Mod_refuse (-4) 4 (by decide) (by decide)) rfl rfl (by decide) rfl rfl (Nat.le_of_ble_eq_true rfl) ?_
    refine z_goto d_Mod_strokes_17 26 (by decide) ?_
    exact z_ireturn d_Mod_strokes_26 (by simp_all [zb_eq, zb_ne, ← Int32.not_le]) (by simp_all [zb_eq, zb_ne, rfu, ← Int32.not_le])
  · refine z_invs d_Mod_strokes_4 7 rfl hm_Mod_within lk_Mod_82 st_Mod_within (r_Mod_within_2 _ _ _ hw hv) rfl rfl (by decide) rfl rfl (Nat.le_of_ble_eq_true rfl) ?_
    refine z_istore_n d_Mod_strokes_7 8 rfl (by decide) rfl ?_
    refine z_iload_n d_Mod_strokes_8 rfl 9 rfl ?_
    refine z_if_eq d_Mod_strokes_9 20 12 (by decide) rfl (fun h => absurd h (by decide)) (fun h2 => ?_)
    refine z_aload_n d_Mod_strokes_12 rfl 13 rfl ?_
    refine z_iload_n d_Mod_strokes_13 rfl 14 rfl ?_
    refine z_invv d_Mod_strokes_14 17 rfl hm_Mod_refuse lk_Mod_29 im_Mod_refuse sl_Mod_Mod_refuse rfl wm_45 (r_Mod_refuse (-6) 6 (by decide) (by decide)) rfl rfl (by decide) rfl rfl (Nat.le_of_ble_eq_true rfl) ?_
    refine z_goto d_Mod_strokes_17 26 (by decide) ?_
    exact z_ireturn d_Mod_strokes_26 (by simp_all [zb_eq, zb_ne, ← Int32.not_le]) (by simp_all [zb_eq, zb_ne, rfu, ← Int32.not_le])
  · refine z_invs d_Mod_strokes_4 7 rfl hm_Mod_within lk_Mod_82 st_Mod_within (r_Mod_within_3 _ _ _ hw hv) rfl rfl (by decide) rfl rfl (Nat.le_of_ble_eq_true rfl) ?_
    refine z_istore_n d_Mod_strokes_7 8 rfl (by decide) rfl ?_
    refine z_iload_n d_Mod_strokes_8 rfl 9 rfl ?_
    refine z_if_eq d_Mod_strokes_9 20 12 (by decide) rfl (fun h3 => ?_) (fun h => absurd (by decide) h)
    refine z_aload_n d_Mod_strokes_20 rfl 21 rfl ?_
    refine z_iconst d_Mod_strokes_21 3 (by decide) 22 rfl ?_
    refine z_iload_n d_Mod_strokes_22 rfl 23 rfl ?_
    refine z_invv d_Mod_strokes_23 26 rfl hm_Mod_becomes lk_Mod_86 im_Mod_becomes sl_Mod_Mod_becomes rfl wm_45 (r_Mod_becomes _ _ (3) (rfl) (by omega)) rfl rfl (by decide) rfl rfl (Nat.le_of_ble_eq_true rfl) ?_
    exact z_ireturn d_Mod_strokes_26 (by simp_all [zb_eq, zb_ne, ← Int32.not_le]) (by simp_all [zb_eq, zb_ne, rfu, ← Int32.not_le])
set_option maxHeartbeats 400000 in
theorem r_Mod_reach {K : zKK} {rf s im mt rd sc : Nat → Int32} {tl : List zC} (l v : Int32) : Ret 5 0 0 m_Mod_reach [.ref 45, .int l, .int v] (wld K (rf, s, im, mt, rd, sc) tl) (some (.int ((if inR l 6 = true then (if v < 0 then -4 else (if 10 < v then -6 else s (186 + 8 * ix l + 7))) else -1)))) (wld K ((if inR l 6 = true then (if v < 0 then rfu rf 4 else (if 10 < v then rfu rf 6 else rf)) else rfu rf 1), (if inR l 6 = true then (if v < 0 then s else (if 10 < v then s else upd s (186 + 8 * ix l + 7) v)) else s), im, mt, rd, sc) tl) := by
  refine Ret.of (n := 1) (by decide) (rfl) rfl (fun X => ?_)
  refine z_iload_n d_Mod_reach_0 rfl 1 rfl ?_
  refine z_invs d_Mod_reach_1 4 rfl hm_Mod_isLaw lk_Mod_79 st_Mod_isLaw (r_Mod_isLaw _) rfl rfl (by decide) rfl rfl (Nat.le_of_ble_eq_true rfl) ?_
  refine z_if_eq d_Mod_reach_4 17 7 (by decide) rfl (fun h1 => ?_) (fun h1 => ?_)
  · refine z_iconst d_Mod_reach_17 (-1) (by decide) 18 rfl ?_
    refine z_istore_n d_Mod_reach_18 19 rfl (by decide) rfl ?_
    refine z_iload_n d_Mod_reach_19 rfl 20 rfl ?_
    refine z_if_eq d_Mod_reach_20 31 23 (by decide) rfl (fun h => absurd h (by decide)) (fun h2 => ?_)
    refine z_aload_n d_Mod_reach_23 rfl 24 rfl ?_
    refine z_iload_n d_Mod_reach_24 rfl 25 rfl ?_
    refine z_invv d_Mod_reach_25 28 rfl hm_Mod_refuse lk_Mod_29 im_Mod_refuse sl_Mod_Mod_refuse rfl wm_45 (r_Mod_refuse (-1) 1 (by decide) (by decide)) rfl rfl (by decide) rfl rfl (Nat.le_of_ble_eq_true rfl) ?_
    refine z_goto d_Mod_reach_28 47 (by decide) ?_
    exact z_ireturn d_Mod_reach_47 (by simp_all [zb_eq, zb_ne, ← Int32.not_le]) (by simp_all [zb_eq, zb_ne, rfu, ← Int32.not_le])
  · obtain ⟨i3, hi3, rfl⟩ := vld h1 (n := 6) rfl (by decide)
    have hci3 : (nI i3).toNatClampNeg = i3 := nI_clamp (by omega)
    refine z_iload_n d_Mod_reach_7 rfl 8 rfl ?_
    refine z_iconst d_Mod_reach_8 0 (by decide) 9 rfl ?_
    refine z_bipush d_Mod_reach_9 10 (by decide) 11 rfl ?_
    rcases wi_cases (v) (0) (10) with hw | ⟨hw, hv⟩ | ⟨hw, hv⟩
    · refine z_invs d_Mod_reach_11 14 rfl hm_Mod_within lk_Mod_82 st_Mod_within (r_Mod_within_1 _ _ _ hw) rfl rfl (by decide) rfl rfl (Nat.le_of_ble_eq_true rfl) ?_
      refine z_goto d_Mod_reach_14 18 (by decide) ?_
      refine z_istore_n d_Mod_reach_18 19 rfl (by decide) rfl ?_
      refine z_iload_n d_Mod_reach_19 rfl 20 rfl ?_
      refine z_if_eq d_Mod_reach_20 31 23 (by decide) rfl (fun h => absurd h (by decide)) (fun h4 => ?_)
      refine z_aload_n d_Mod_reach_23 rfl 24 rfl ?_
      refine z_iload_n d_Mod_reach_24 rfl 25 rfl ?_
      refine z_invv d_Mod_reach_25 28 rfl hm_Mod_refuse lk_Mod_29 im_Mod_refuse sl_Mod_Mod_refuse rfl wm_45 (r_Mod_refuse (-4) 4 (by decide) (by decide)) rfl rfl (by decide) rfl rfl (Nat.le_of_ble_eq_true rfl) ?_
      refine z_goto d_Mod_reach_28 47 (by decide) ?_
      exact z_ireturn d_Mod_reach_47 (by simp_all [zb_eq, zb_ne, ← Int32.not_le]) (by simp_all [zb_eq, zb_ne, rfu, ← Int32.not_le])
    · refine z_invs d_Mod_reach_11 14 rfl hm_Mod_within lk_Mod_82 st_Mod_within (r_Mod_within_2 _ _ _ hw hv) rfl rfl (by decide) rfl rfl (Nat.le_of_ble_eq_true rfl) ?_
      refine z_goto d_Mod_reach_14 18 (by decide) ?_
      refine z_istore_n d_Mod_reach_18 19 rfl (by decide) rfl ?_
      refine z_iload_n d_Mod_reach_19 rfl 20 rfl ?_
      refine z_if_eq d_Mod_reach_20 31 23 (by decide) rfl (fun h => absurd h (by decide)) (fun h5 => ?_)
      refine z_aload_n d_Mod_reach_23 rfl 24 rfl ?_
      refine z_iload_n d_Mod_reach_24 rfl 25 rfl ?_
      refine z_invv d_Mod_reach_25 28 rfl hm_Mod_refuse lk_Mod_29 im_Mod_refuse sl_Mod_Mod_refuse rfl wm_45 (r_Mod_refuse (-6) 6 (by decide) (by decide)) rfl rfl (by decide) rfl rfl (Nat.le_of_ble_eq_true rfl) ?_
      refine z_goto d_Mod_reach_28 47 (by decide) ?_
      exact z_ireturn d_Mod_reach_47 (by simp_all [zb_eq, zb_ne, ← Int32.not_le]) (by simp_all [zb_eq, zb_ne, rfu, ← Int32.not_le])
    · refine z_invs d_Mod_reach_11 14 rfl hm_Mod_within lk_Mod_82 st_Mod_within (r_Mod_within_3 _ _ _ hw hv) rfl rfl (by decide) rfl rfl (Nat.le_of_ble_eq_true rfl) ?_
      refine z_goto d_Mod_reach_14 18 (by decide) ?_
      refine z_istore_n d_Mod_reach_18 19 rfl (by decide) rfl ?_
      refine z_iload_n d_Mod_reach_19 rfl 20 rfl ?_
      refine z_if_eq d_Mod_reach_20 31 23 (by decide) rfl (fun h6 => ?_) (fun h => absurd (by decide) h)
      refine z_aload_n d_Mod_reach_31 rfl 32 rfl ?_
      refine z_sipush d_Mod_reach_32 186 (by decide) 35 rfl ?_
      refine z_bipush d_Mod_reach_35 8 (by decide) 37 rfl ?_
      refine z_iload_n d_Mod_reach_37 rfl 38 rfl ?_
      refine z_imul d_Mod_reach_38 39 rfl ?_
      refine z_iadd d_Mod_reach_39 40 rfl ?_
      refine z_bipush d_Mod_reach_40 7 (by decide) 42 rfl ?_
      refine z_iadd d_Mod_reach_42 43 rfl ?_
      refine z_iload_n d_Mod_reach_43 rfl 44 rfl ?_
      refine z_invv d_Mod_reach_44 47 rfl hm_Mod_becomes lk_Mod_86 im_Mod_becomes sl_Mod_Mod_becomes rfl wm_45 (r_Mod_becomes _ _ (((186 + (8 * i3)) + 7)) (by show ((nI 186 + (nI 8 * nI i3)) + nI 7) = _; simp only [pk_mul, nI_add]) (by omega)) rfl rfl (by decide) rfl rfl (Nat.le_of_ble_eq_true rfl) ?_
      exact z_ireturn d_Mod_reach_47 (by simp_all [zb_eq, zb_ne, ← Int32.not_le]) (by simp_all [zb_eq, zb_ne, rfu, ← Int32.not_le])
set_option maxHeartbeats 400000 in
theorem r_Mod_twice {K : zKK} {rf s im mt rd sc : Nat → Int32} {tl : List zC} {n : Nat} (hn : s 0 = nI n) (hn30 : n ≤ 30) {q : Nat} (hq : s 1 = nI q) (hq10 : q ≤ 10) (a b : Int32) : Ret 5 0 0 m_Mod_twice [.ref 45, .int a, .int b] (wld K (rf, s, im, mt, rd, sc) tl) (some (.int ((if inR a (s 0) = true then (if inR b (s 0) = true then (if s (6 + 6 * ix b + 4) ≤ s (6 + 6 * ix a + 4) then -3 else (if s 1 = 10 then -6 else nI q + 1)) else -1) else -1)))) (wld K ((if inR a (s 0) = true then (if inR b (s 0) = true then (if s (6 + 6 * ix b + 4) ≤ s (6 + 6 * ix a + 4) then rfu rf 3 else (if s 1 = 10 then rfu rf 6 else rf)) else rfu rf 1) else rfu rf 1), (if inR a (s 0) = true then (if inR b (s 0) = true then (if s (6 + 6 * ix b + 4) ≤ s (6 + 6 * ix a + 4) then s else (if s 1 = 10 then s else upd (upd (upd s (234 + 2 * q) a) (234 + 2 * q + 1) b) 1 (nI q + 1))) else s) else s), im, mt, rd, sc) tl) := by
  refine Ret.of (n := 1) (by decide) (rfl) rfl (fun X => ?_)
  refine z_aload_n d_Mod_twice_0 rfl 1 rfl ?_
  refine z_iload_n d_Mod_twice_1 rfl 2 rfl ?_
  refine z_invv d_Mod_twice_2 5 rfl hm_Mod_isTelling lk_Mod_63 im_Mod_isTelling sl_Mod_Mod_isTelling rfl wm_45 (r_Mod_isTelling _) rfl rfl (by decide) rfl rfl (Nat.le_of_ble_eq_true rfl) ?_
  refine z_if_eq d_Mod_twice_5 16 8 (by decide) rfl (fun h1 => ?_) (fun h1 => ?_)
  · refine z_iconst d_Mod_twice_16 (-1) (by decide) 17 rfl ?_
    refine z_goto d_Mod_twice_17 57 (by decide) ?_
    refine z_istore_n d_Mod_twice_57 58 rfl (by decide) rfl ?_
    refine z_iload_n d_Mod_twice_58 rfl 59 rfl ?_
    refine z_if_eq d_Mod_twice_59 68 62 (by decide) rfl (fun h => absurd h (by decide)) (fun h2 => ?_)
    refine z_aload_n d_Mod_twice_62 rfl 63 rfl ?_
    refine z_iload_n d_Mod_twice_63 rfl 64 rfl ?_
    refine z_invv d_Mod_twice_64 67 rfl hm_Mod_refuse lk_Mod_29 im_Mod_refuse sl_Mod_Mod_refuse rfl wm_45 (r_Mod_refuse (-1) 1 (by decide) (by decide)) rfl rfl (by decide) rfl rfl (Nat.le_of_ble_eq_true rfl) ?_
    exact z_ireturn d_Mod_twice_67 (by simp_all [zb_eq, zb_ne, ← Int32.not_le]) (by simp_all [zb_eq, zb_ne, rfu, ← Int32.not_le])
  · obtain ⟨i3, hi3, rfl⟩ := vld h1 hn (by omega)
    have hci3 : (nI i3).toNatClampNeg = i3 := nI_clamp (by omega)
    refine z_aload_n d_Mod_twice_8 rfl 9 rfl ?_
    refine z_iload_n d_Mod_twice_9 rfl 10 rfl ?_
    refine z_invv d_Mod_twice_10 13 rfl hm_Mod_isTelling lk_Mod_63 im_Mod_isTelling sl_Mod_Mod_isTelling rfl wm_45 (r_Mod_isTelling _) rfl rfl (by decide) rfl rfl (Nat.le_of_ble_eq_true rfl) ?_
    refine z_if_ne d_Mod_twice_13 20 16 (by decide) rfl (fun h4 => ?_) (fun h4 => ?_)
    · obtain ⟨i5, hi5, rfl⟩ := vld h4 hn (by omega)
      have hci5 : (nI i5).toNatClampNeg = i5 := nI_clamp (by omega)
      refine z_aload_n d_Mod_twice_20 rfl 21 rfl ?_
      refine z_iload_n d_Mod_twice_21 rfl 22 rfl ?_
      refine z_iconst d_Mod_twice_22 4 (by decide) 23 rfl ?_
      refine z_invv d_Mod_twice_23 26 rfl hm_Mod_get lk_Mod_66 im_Mod_get sl_Mod_Mod_get rfl wm_45 (r_Mod_get _ _ (i5) (4) rfl rfl (by omega)) rfl rfl (by decide) rfl rfl (Nat.le_of_ble_eq_true rfl) ?_
      refine z_aload_n d_Mod_twice_26 rfl 27 rfl ?_
      refine z_iload_n d_Mod_twice_27 rfl 28 rfl ?_
      refine z_iconst d_Mod_twice_28 4 (by decide) 29 rfl ?_
      refine z_invv d_Mod_twice_29 32 rfl hm_Mod_get lk_Mod_66 im_Mod_get sl_Mod_Mod_get rfl wm_45 (r_Mod_get _ _ (i3) (4) rfl rfl (by omega)) rfl rfl (by decide) rfl rfl (Nat.le_of_ble_eq_true rfl) ?_
      refine z_icmp_gt d_Mod_twice_32 40 35 (by decide) rfl (fun h6 => ?_) (fun h6 => ?_)
      · refine z_aload_n d_Mod_twice_40 rfl 41 rfl ?_
        refine z_get d_Mod_twice_41 44 rfl fl_Mod_13_11 wm_45 rfl ?_
        refine z_iconst d_Mod_twice_44 1 (by decide) 45 rfl ?_
        refine z_iaload d_Mod_twice_45 (1) 46 rfl wm_47 (rfl) (by omega) (by decide) ?_
        refine z_top (.int (nI (q))) (by first | exact hq | simp [upd, hq, show ¬ (1 = 234 + 2 * q) by omega, show ¬ (1 = 234 + 2 * q + 1) by omega]) ?_
        refine z_bipush d_Mod_twice_46 10 (by decide) 48 rfl ?_
        refine z_icmp_ne d_Mod_twice_48 56 51 (by decide) rfl (fun h9 => ?_) (fun h9 => ?_)
        · have hq9 : q < 10 := by
            rcases Nat.lt_or_ge q 10 with h | h
            · exact h
            · exact absurd (show nI q = nI 10 by rw [show q = 10 by omega]) h9
          have h9 : ¬ s 1 = 10 := by rw [hq]; exact h9
          refine z_iconst d_Mod_twice_56 0 (by decide) 57 rfl ?_
          refine z_istore_n d_Mod_twice_57 58 rfl (by decide) rfl ?_
          refine z_iload_n d_Mod_twice_58 rfl 59 rfl ?_
          refine z_if_eq d_Mod_twice_59 68 62 (by decide) rfl (fun h7 => ?_) (fun h => absurd (by decide) h)
          refine z_aload_n d_Mod_twice_68 rfl 69 rfl ?_
          refine z_get d_Mod_twice_69 72 rfl fl_Mod_13_11 wm_45 rfl ?_
          refine z_sipush d_Mod_twice_72 234 (by decide) 75 rfl ?_
          refine z_iconst d_Mod_twice_75 2 (by decide) 76 rfl ?_
          refine z_aload_n d_Mod_twice_76 rfl 77 rfl ?_
          refine z_get d_Mod_twice_77 80 rfl fl_Mod_13_11 wm_45 rfl ?_
          refine z_iconst d_Mod_twice_80 1 (by decide) 81 rfl ?_
          refine z_iaload d_Mod_twice_81 (1) 82 rfl wm_47 (rfl) (by omega) (by decide) ?_
          refine z_top (.int (nI (q))) (by first | exact hq | simp [upd, hq, show ¬ (1 = 234 + 2 * q) by omega, show ¬ (1 = 234 + 2 * q + 1) by omega]) ?_
          refine z_imul d_Mod_twice_82 83 rfl ?_
          refine z_iadd d_Mod_twice_83 84 rfl ?_
          refine z_iload_n d_Mod_twice_84 rfl 85 rfl ?_
          refine z_iastore d_Mod_twice_85 ((234 + (2 * q))) 86 rfl wm_47 (by show (nI 234 + (nI 2 * nI q)) = _; simp only [pk_mul, nI_add]) (by omega) (by decide) ?_
          refine z_hp ws_47 ?_
          refine z_aload_n d_Mod_twice_86 rfl 87 rfl ?_
          refine z_get d_Mod_twice_87 90 rfl fl_Mod_13_11 wm_45 rfl ?_
          refine z_sipush d_Mod_twice_90 234 (by decide) 93 rfl ?_
          refine z_iconst d_Mod_twice_93 2 (by decide) 94 rfl ?_
          refine z_aload_n d_Mod_twice_94 rfl 95 rfl ?_
          refine z_get d_Mod_twice_95 98 rfl fl_Mod_13_11 wm_45 rfl ?_
          refine z_iconst d_Mod_twice_98 1 (by decide) 99 rfl ?_
          refine z_iaload d_Mod_twice_99 (1) 100 rfl wm_47 (rfl) (by omega) (by decide) ?_
          refine z_top (.int (nI (q))) (by first | exact hq | simp [upd, hq, show ¬ (1 = 234 + 2 * q) by omega, show ¬ (1 = 234 + 2 * q + 1) by omega]) ?_
          refine z_imul d_Mod_twice_100 101 rfl ?_
          refine z_iadd d_Mod_twice_101 102 rfl ?_
          refine z_iconst d_Mod_twice_102 1 (by decide) 103 rfl ?_
          refine z_iadd d_Mod_twice_103 104 rfl ?_
          refine z_iload_n d_Mod_twice_104 rfl 105 rfl ?_
          refine z_iastore d_Mod_twice_105 (((234 + (2 * q)) + 1)) 106 rfl wm_47 (by show ((nI 234 + (nI 2 * nI q)) + nI 1) = _; simp only [pk_mul, nI_add]) (by omega) (by decide) ?_
          refine z_hp ws_47 ?_
          refine z_aload_n d_Mod_twice_106 rfl 107 rfl ?_
          refine z_get d_Mod_twice_107 110 rfl fl_Mod_13_11 wm_45 rfl ?_
          refine z_iconst d_Mod_twice_110 1 (by decide) 111 rfl ?_
          refine z_dup2 d_Mod_twice_111 rfl rfl 112 rfl ?_
          refine z_iaload d_Mod_twice_112 (1) 113 rfl wm_47 (rfl) (by omega) (by decide) ?_
          refine z_top (.int (nI (q))) (by first | exact hq | simp [upd, hq, show ¬ (1 = 234 + 2 * q) by omega, show ¬ (1 = 234 + 2 * q + 1) by omega]) ?_
          refine z_iconst d_Mod_twice_113 1 (by decide) 114 rfl ?_
          refine z_iadd d_Mod_twice_114 115 rfl ?_
          refine z_iastore d_Mod_twice_115 (1) 116 rfl wm_47 (rfl) (by omega) (by decide) ?_
          refine z_hp ws_47 ?_
          refine z_aload_n d_Mod_twice_116 rfl 117 rfl ?_
          refine z_get d_Mod_twice_117 120 rfl fl_Mod_13_11 wm_45 rfl ?_
          refine z_iconst d_Mod_twice_120 1 (by decide) 121 rfl ?_
          refine z_iaload d_Mod_twice_121 (1) 122 rfl wm_47 (rfl) (by omega) (by decide) ?_
          exact z_ireturn d_Mod_twice_122 (by simp_all [zb_eq, zb_ne, upd, ← Int32.not_le]) (by simp_all [zb_eq, zb_ne, rfu, ← Int32.not_le])
        · have h9 : s 1 = 10 := by rw [hq]; exact h9
          refine z_bipush d_Mod_twice_51 (-6) (by decide) 53 rfl ?_
          refine z_goto d_Mod_twice_53 57 (by decide) ?_
          refine z_istore_n d_Mod_twice_57 58 rfl (by decide) rfl ?_
          refine z_iload_n d_Mod_twice_58 rfl 59 rfl ?_
          refine z_if_eq d_Mod_twice_59 68 62 (by decide) rfl (fun h => absurd h (by decide)) (fun h8 => ?_)
          refine z_aload_n d_Mod_twice_62 rfl 63 rfl ?_
          refine z_iload_n d_Mod_twice_63 rfl 64 rfl ?_
          refine z_invv d_Mod_twice_64 67 rfl hm_Mod_refuse lk_Mod_29 im_Mod_refuse sl_Mod_Mod_refuse rfl wm_45 (r_Mod_refuse (-6) 6 (by decide) (by decide)) rfl rfl (by decide) rfl rfl (Nat.le_of_ble_eq_true rfl) ?_
          exact z_ireturn d_Mod_twice_67 (by simp_all [zb_eq, zb_ne, ← Int32.not_le]) (by simp_all [zb_eq, zb_ne, rfu, ← Int32.not_le])
      · refine z_bipush d_Mod_twice_35 (-3) (by decide) 37 rfl ?_
        refine z_goto d_Mod_twice_37 57 (by decide) ?_
        refine z_istore_n d_Mod_twice_57 58 rfl (by decide) rfl ?_
        refine z_iload_n d_Mod_twice_58 rfl 59 rfl ?_
        refine z_if_eq d_Mod_twice_59 68 62 (by decide) rfl (fun h => absurd h (by decide)) (fun h9 => ?_)
        refine z_aload_n d_Mod_twice_62 rfl 63 rfl ?_
        refine z_iload_n d_Mod_twice_63 rfl 64 rfl ?_
        refine z_invv d_Mod_twice_64 67 rfl hm_Mod_refuse lk_Mod_29 im_Mod_refuse sl_Mod_Mod_refuse rfl wm_45 (r_Mod_refuse (-3) 3 (by decide) (by decide)) rfl rfl (by decide) rfl rfl (Nat.le_of_ble_eq_true rfl) ?_
        exact z_ireturn d_Mod_twice_67 (by simp_all [zb_eq, zb_ne, ← Int32.not_le]) (by simp_all [zb_eq, zb_ne, rfu, ← Int32.not_le])
    · refine z_iconst d_Mod_twice_16 (-1) (by decide) 17 rfl ?_
      refine z_goto d_Mod_twice_17 57 (by decide) ?_
      refine z_istore_n d_Mod_twice_57 58 rfl (by decide) rfl ?_
      refine z_iload_n d_Mod_twice_58 rfl 59 rfl ?_
      refine z_if_eq d_Mod_twice_59 68 62 (by decide) rfl (fun h => absurd h (by decide)) (fun h10 => ?_)
      refine z_aload_n d_Mod_twice_62 rfl 63 rfl ?_
      refine z_iload_n d_Mod_twice_63 rfl 64 rfl ?_
      refine z_invv d_Mod_twice_64 67 rfl hm_Mod_refuse lk_Mod_29 im_Mod_refuse sl_Mod_Mod_refuse rfl wm_45 (r_Mod_refuse (-1) 1 (by decide) (by decide)) rfl rfl (by decide) rfl rfl (Nat.le_of_ble_eq_true rfl) ?_
      exact z_ireturn d_Mod_twice_67 (by simp_all [zb_eq, zb_ne, ← Int32.not_le]) (by simp_all [zb_eq, zb_ne, rfu, ← Int32.not_le])
set_option maxHeartbeats 400000 in
theorem r_Mod_bench {K : zKK} {rf s im mt rd sc : Nat → Int32} {tl : List zC} (z e c m : Int32) : Ret 5 0 0 m_Mod_bench [.ref 45, .int z, .int e, .int c, .int m] (wld K (rf, s, im, mt, rd, sc) tl) (some (.int ((if inR c 8 = true then (if inR m 256 = true then (if z < 0 then -4 else (if e < 0 then -4 else (if 999 < z then -6 else (if 999 < e then -6 else 1)))) else -1) else -1)))) (wld K ((if inR c 8 = true then (if inR m 256 = true then (if z < 0 then rfu rf 4 else (if e < 0 then rfu rf 4 else (if 999 < z then rfu rf 6 else (if 999 < e then rfu rf 6 else rf)))) else rfu rf 1) else rfu rf 1), (if inR c 8 = true then (if inR m 256 = true then (if z < 0 then s else (if e < 0 then s else (if 999 < z then s else (if 999 < e then s else upd (upd (upd (upd s 264 z) 265 e) 266 c) 267 m)))) else s) else s), im, mt, rd, sc) tl) := by
  refine Ret.of (n := 1) (by decide) (rfl) rfl (fun X => ?_)
  refine z_iload_n d_Mod_bench_0 rfl 1 rfl ?_
  refine z_bipush d_Mod_bench_1 8 (by decide) 3 rfl ?_
  refine z_invs d_Mod_bench_3 6 rfl hm_Mod_isIn lk_Mod_25 st_Mod_isIn (r_Mod_isIn _ _) rfl rfl (by decide) rfl rfl (Nat.le_of_ble_eq_true rfl) ?_
  refine z_if_eq d_Mod_bench_6 20 9 (by decide) rfl (fun h1 => ?_) (fun h1 => ?_)
  · refine z_iconst d_Mod_bench_20 (-1) (by decide) 21 rfl ?_
    refine z_goto d_Mod_bench_21 57 (by decide) ?_
    refine z_istore d_Mod_bench_57 59 rfl (by decide) rfl ?_
    refine z_iload d_Mod_bench_59 rfl 61 rfl ?_
    refine z_if_eq d_Mod_bench_61 71 64 (by decide) rfl (fun h => absurd h (by decide)) (fun h2 => ?_)
    refine z_aload_n d_Mod_bench_64 rfl 65 rfl ?_
    refine z_iload d_Mod_bench_65 rfl 67 rfl ?_
    refine z_invv d_Mod_bench_67 70 rfl hm_Mod_refuse lk_Mod_29 im_Mod_refuse sl_Mod_Mod_refuse rfl wm_45 (r_Mod_refuse (-1) 1 (by decide) (by decide)) rfl rfl (by decide) rfl rfl (Nat.le_of_ble_eq_true rfl) ?_
    exact z_ireturn d_Mod_bench_70 (by simp_all [zb_eq, zb_ne, ← Int32.not_le]) (by simp_all [zb_eq, zb_ne, rfu, ← Int32.not_le])
  · obtain ⟨i3, hi3, rfl⟩ := vld h1 (n := 8) rfl (by decide)
    have hci3 : (nI i3).toNatClampNeg = i3 := nI_clamp (by omega)
    refine z_iload d_Mod_bench_9 rfl 11 rfl ?_
    refine z_sipush d_Mod_bench_11 256 (by decide) 14 rfl ?_
    refine z_invs d_Mod_bench_14 17 rfl hm_Mod_isIn lk_Mod_25 st_Mod_isIn (r_Mod_isIn _ _) rfl rfl (by decide) rfl rfl (Nat.le_of_ble_eq_true rfl) ?_
    refine z_if_ne d_Mod_bench_17 24 20 (by decide) rfl (fun h4 => ?_) (fun h4 => ?_)
    · obtain ⟨i5, hi5, rfl⟩ := vld h4 (n := 256) rfl (by decide)
      have hci5 : (nI i5).toNatClampNeg = i5 := nI_clamp (by omega)
      refine z_iload_n d_Mod_bench_24 rfl 25 rfl ?_
      refine z_if_lt d_Mod_bench_25 32 28 (by decide) rfl (fun h6 => ?_) (fun h6 => ?_)
      · refine z_bipush d_Mod_bench_32 (-4) (by decide) 34 rfl ?_
        refine z_goto d_Mod_bench_34 57 (by decide) ?_
        refine z_istore d_Mod_bench_57 59 rfl (by decide) rfl ?_
        refine z_iload d_Mod_bench_59 rfl 61 rfl ?_
        refine z_if_eq d_Mod_bench_61 71 64 (by decide) rfl (fun h => absurd h (by decide)) (fun h7 => ?_)
        refine z_aload_n d_Mod_bench_64 rfl 65 rfl ?_
        refine z_iload d_Mod_bench_65 rfl 67 rfl ?_
        refine z_invv d_Mod_bench_67 70 rfl hm_Mod_refuse lk_Mod_29 im_Mod_refuse sl_Mod_Mod_refuse rfl wm_45 (r_Mod_refuse (-4) 4 (by decide) (by decide)) rfl rfl (by decide) rfl rfl (Nat.le_of_ble_eq_true rfl) ?_
        exact z_ireturn d_Mod_bench_70 (by simp_all [zb_eq, zb_ne, ← Int32.not_le]) (by simp_all [zb_eq, zb_ne, rfu, ← Int32.not_le])
      · refine z_iload_n d_Mod_bench_28 rfl 29 rfl ?_
        refine z_if_ge d_Mod_bench_29 37 32 (by decide) rfl (fun h8 => ?_) (fun h8 => ?_)
        · refine z_iload_n d_Mod_bench_37 rfl 38 rfl ?_
          refine z_sipush d_Mod_bench_38 999 (by decide) 41 rfl ?_
          refine z_icmp_gt d_Mod_bench_41 51 44 (by decide) rfl (fun h9 => ?_) (fun h9 => ?_)
          · refine z_bipush d_Mod_bench_51 (-6) (by decide) 53 rfl ?_
            refine z_goto d_Mod_bench_53 57 (by decide) ?_
            refine z_istore d_Mod_bench_57 59 rfl (by decide) rfl ?_
            refine z_iload d_Mod_bench_59 rfl 61 rfl ?_
            refine z_if_eq d_Mod_bench_61 71 64 (by decide) rfl (fun h => absurd h (by decide)) (fun h10 => ?_)
            refine z_aload_n d_Mod_bench_64 rfl 65 rfl ?_
            refine z_iload d_Mod_bench_65 rfl 67 rfl ?_
            refine z_invv d_Mod_bench_67 70 rfl hm_Mod_refuse lk_Mod_29 im_Mod_refuse sl_Mod_Mod_refuse rfl wm_45 (r_Mod_refuse (-6) 6 (by decide) (by decide)) rfl rfl (by decide) rfl rfl (Nat.le_of_ble_eq_true rfl) ?_
            exact z_ireturn d_Mod_bench_70 (by simp_all [zb_eq, zb_ne, ← Int32.not_le]) (by simp_all [zb_eq, zb_ne, rfu, ← Int32.not_le])
          · refine z_iload_n d_Mod_bench_44 rfl 45 rfl ?_
            refine z_sipush d_Mod_bench_45 999 (by decide) 48 rfl ?_
            refine z_icmp_le d_Mod_bench_48 56 51 (by decide) rfl (fun h11 => ?_) (fun h11 => ?_)
            · refine z_iconst d_Mod_bench_56 0 (by decide) 57 rfl ?_
              refine z_istore d_Mod_bench_57 59 rfl (by decide) rfl ?_
              refine z_iload d_Mod_bench_59 rfl 61 rfl ?_
              refine z_if_eq d_Mod_bench_61 71 64 (by decide) rfl (fun h12 => ?_) (fun h => absurd (by decide) h)
              refine z_aload_n d_Mod_bench_71 rfl 72 rfl ?_
              refine z_get d_Mod_bench_72 75 rfl fl_Mod_13_11 wm_45 rfl ?_
              refine z_sipush d_Mod_bench_75 264 (by decide) 78 rfl ?_
              refine z_iload_n d_Mod_bench_78 rfl 79 rfl ?_
              refine z_iastore d_Mod_bench_79 (264) 80 rfl wm_47 (rfl) (by omega) (by decide) ?_
              refine z_hp ws_47 ?_
              refine z_aload_n d_Mod_bench_80 rfl 81 rfl ?_
              refine z_get d_Mod_bench_81 84 rfl fl_Mod_13_11 wm_45 rfl ?_
              refine z_sipush d_Mod_bench_84 265 (by decide) 87 rfl ?_
              refine z_iload_n d_Mod_bench_87 rfl 88 rfl ?_
              refine z_iastore d_Mod_bench_88 (265) 89 rfl wm_47 (rfl) (by omega) (by decide) ?_
              refine z_hp ws_47 ?_
              refine z_aload_n d_Mod_bench_89 rfl 90 rfl ?_
              refine z_get d_Mod_bench_90 93 rfl fl_Mod_13_11 wm_45 rfl ?_
              refine z_sipush d_Mod_bench_93 266 (by decide) 96 rfl ?_
              refine z_iload_n d_Mod_bench_96 rfl 97 rfl ?_
              refine z_iastore d_Mod_bench_97 (266) 98 rfl wm_47 (rfl) (by omega) (by decide) ?_
              refine z_hp ws_47 ?_
              refine z_aload_n d_Mod_bench_98 rfl 99 rfl ?_
              refine z_get d_Mod_bench_99 102 rfl fl_Mod_13_11 wm_45 rfl ?_
              refine z_sipush d_Mod_bench_102 267 (by decide) 105 rfl ?_
              refine z_iload d_Mod_bench_105 rfl 107 rfl ?_
              refine z_iastore d_Mod_bench_107 (267) 108 rfl wm_47 (rfl) (by omega) (by decide) ?_
              refine z_hp ws_47 ?_
              refine z_iconst d_Mod_bench_108 1 (by decide) 109 rfl ?_
              exact z_ireturn d_Mod_bench_109 (by simp_all [zb_eq, zb_ne, ← Int32.not_le]) (by simp_all [zb_eq, zb_ne, rfu, ← Int32.not_le])
            · refine z_bipush d_Mod_bench_51 (-6) (by decide) 53 rfl ?_
              refine z_goto d_Mod_bench_53 57 (by decide) ?_
              refine z_istore d_Mod_bench_57 59 rfl (by decide) rfl ?_
              refine z_iload d_Mod_bench_59 rfl 61 rfl ?_
              refine z_if_eq d_Mod_bench_61 71 64 (by decide) rfl (fun h => absurd h (by decide)) (fun h13 => ?_)
              refine z_aload_n d_Mod_bench_64 rfl 65 rfl ?_
              refine z_iload d_Mod_bench_65 rfl 67 rfl ?_
              refine z_invv d_Mod_bench_67 70 rfl hm_Mod_refuse lk_Mod_29 im_Mod_refuse sl_Mod_Mod_refuse rfl wm_45 (r_Mod_refuse (-6) 6 (by decide) (by decide)) rfl rfl (by decide) rfl rfl (Nat.le_of_ble_eq_true rfl) ?_
              exact z_ireturn d_Mod_bench_70 (by simp_all [zb_eq, zb_ne, ← Int32.not_le]) (by simp_all [zb_eq, zb_ne, rfu, ← Int32.not_le])
        · refine z_bipush d_Mod_bench_32 (-4) (by decide) 34 rfl ?_
          refine z_goto d_Mod_bench_34 57 (by decide) ?_
          refine z_istore d_Mod_bench_57 59 rfl (by decide) rfl ?_
          refine z_iload d_Mod_bench_59 rfl 61 rfl ?_
          refine z_if_eq d_Mod_bench_61 71 64 (by decide) rfl (fun h => absurd h (by decide)) (fun h14 => ?_)
          refine z_aload_n d_Mod_bench_64 rfl 65 rfl ?_
          refine z_iload d_Mod_bench_65 rfl 67 rfl ?_
          refine z_invv d_Mod_bench_67 70 rfl hm_Mod_refuse lk_Mod_29 im_Mod_refuse sl_Mod_Mod_refuse rfl wm_45 (r_Mod_refuse (-4) 4 (by decide) (by decide)) rfl rfl (by decide) rfl rfl (Nat.le_of_ble_eq_true rfl) ?_
          exact z_ireturn d_Mod_bench_70 (by simp_all [zb_eq, zb_ne, ← Int32.not_le]) (by simp_all [zb_eq, zb_ne, rfu, ← Int32.not_le])
    · refine z_iconst d_Mod_bench_20 (-1) (by decide) 21 rfl ?_
      refine z_goto d_Mod_bench_21 57 (by decide) ?_
      refine z_istore d_Mod_bench_57 59 rfl (by decide) rfl ?_
      refine z_iload d_Mod_bench_59 rfl 61 rfl ?_
      refine z_if_eq d_Mod_bench_61 71 64 (by decide) rfl (fun h => absurd h (by decide)) (fun h15 => ?_)
      refine z_aload_n d_Mod_bench_64 rfl 65 rfl ?_
      refine z_iload d_Mod_bench_65 rfl 67 rfl ?_
      refine z_invv d_Mod_bench_67 70 rfl hm_Mod_refuse lk_Mod_29 im_Mod_refuse sl_Mod_Mod_refuse rfl wm_45 (r_Mod_refuse (-1) 1 (by decide) (by decide)) rfl rfl (by decide) rfl rfl (Nat.le_of_ble_eq_true rfl) ?_
      exact z_ireturn d_Mod_bench_70 (by simp_all [zb_eq, zb_ne, ← Int32.not_le]) (by simp_all [zb_eq, zb_ne, rfu, ← Int32.not_le])
