theorem rd0_eq (rd : Nat → Int32) : upd (upd (upd (upd (upd (upd rd 0 (-9)) 1 (-9)) 2 (-9)) 3 0) 4 0) 5 0 = rd0 rd := by
  funext j
  unfold upd rd0
  by_cases h : j < 6
  · rcases (show j = 0 ∨ j = 1 ∨ j = 2 ∨ j = 3 ∨ j = 4 ∨ j = 5 by omega) with rfl | rfl | rfl | rfl | rfl | rfl <;> rfl
  · simp [show ¬ j = 0 by omega, show ¬ j = 1 by omega, show ¬ j = 2 by omega, show ¬ j = 3 by omega, show ¬ j = 4 by omega, show ¬ j = 5 by omega, h, show ¬ j < 3 by omega]
theorem ca {a b c : Int32} {n : Nat} (h : a = nI n) : a = nI n := h
set_option maxHeartbeats 400000 in
theorem r_Mod_reads {K : zKK} {rf s im mt rd sc : Nat → Int32} {tl : List zC} {p : Nat} (hp : p ≤ 24) (hsc : sc 1 = nI p) : Ret 4 0 0 m_Mod_reads [.ref 45] (wld K (rf, s, im, mt, rd, sc) tl) (some (.int (zb (f1 mt p 0 (rd0 rd)).1))) (wld K (rf, s, im, mt, (f1 mt p 0 (rd0 rd)).2.2, upd sc 2 (nI ((f1 mt p 0 (rd0 rd)).2.1))) tl) := by
  refine Ret.of (n := 1) (by decide) (zb_nar _) rfl (fun X => ?_)
  refine z_aload_n d_Mod_reads_0 rfl 1 rfl ?_
  refine z_iconst d_Mod_reads_1 0 (by decide) 2 rfl ?_
  refine z_putI d_Mod_reads_2 5 rfl fp_Mod_39_11 (Or.inl rfl) wm_45 (by simp) ?_
  refine z_hp wp_45_7 ?_
  refine z_iconst d_Mod_reads_5 0 (by decide) 6 rfl ?_
  refine z_istore_n d_Mod_reads_6 7 rfl (by decide) rfl ?_
  refine z_iload_n d_Mod_reads_7 rfl 8 rfl ?_
  refine z_iconst d_Mod_reads_8 3 (by decide) 9 rfl ?_
  refine z_icmp_ge d_Mod_reads_9 26 12 (by decide) rfl (fun h => absurd h (by decide)) (fun h1 => ?_)
  refine z_aload_n d_Mod_reads_12 rfl 13 rfl ?_
  refine z_get d_Mod_reads_13 16 rfl fl_Mod_22_11 wm_45 rfl ?_
  refine z_iload_n d_Mod_reads_16 rfl 17 rfl ?_
  refine z_bipush d_Mod_reads_17 (-9) (by decide) 19 rfl ?_
  refine z_iastore d_Mod_reads_19 0 20 rfl wm_50 (by decide) (by decide) (by decide) ?_
  refine z_hp ws_50 ?_
  refine z_iinc d_Mod_reads_20 1 (by decide) 23 rfl rfl (by decide) rfl ?_
  refine z_goto d_Mod_reads_23 7 (by decide) ?_
  refine z_iload_n d_Mod_reads_7 rfl 8 rfl ?_
  refine z_iconst d_Mod_reads_8 3 (by decide) 9 rfl ?_
  refine z_icmp_ge d_Mod_reads_9 26 12 (by decide) rfl (fun h => absurd h (by decide)) (fun h2 => ?_)
  refine z_aload_n d_Mod_reads_12 rfl 13 rfl ?_
  refine z_get d_Mod_reads_13 16 rfl fl_Mod_22_11 wm_45 rfl ?_
  refine z_iload_n d_Mod_reads_16 rfl 17 rfl ?_
  refine z_bipush d_Mod_reads_17 (-9) (by decide) 19 rfl ?_
  refine z_iastore d_Mod_reads_19 1 20 rfl wm_50 (by decide) (by decide) (by decide) ?_
  refine z_hp ws_50 ?_
  refine z_iinc d_Mod_reads_20 1 (by decide) 23 rfl rfl (by decide) rfl ?_
  refine z_goto d_Mod_reads_23 7 (by decide) ?_
  refine z_iload_n d_Mod_reads_7 rfl 8 rfl ?_
  refine z_iconst d_Mod_reads_8 3 (by decide) 9 rfl ?_
  refine z_icmp_ge d_Mod_reads_9 26 12 (by decide) rfl (fun h => absurd h (by decide)) (fun h3 => ?_)
  refine z_aload_n d_Mod_reads_12 rfl 13 rfl ?_
  refine z_get d_Mod_reads_13 16 rfl fl_Mod_22_11 wm_45 rfl ?_
  refine z_iload_n d_Mod_reads_16 rfl 17 rfl ?_
  refine z_bipush d_Mod_reads_17 (-9) (by decide) 19 rfl ?_
  refine z_iastore d_Mod_reads_19 2 20 rfl wm_50 (by decide) (by decide) (by decide) ?_
  refine z_hp ws_50 ?_
  refine z_iinc d_Mod_reads_20 1 (by decide) 23 rfl rfl (by decide) rfl ?_
  refine z_goto d_Mod_reads_23 7 (by decide) ?_
  refine z_iload_n d_Mod_reads_7 rfl 8 rfl ?_
  refine z_iconst d_Mod_reads_8 3 (by decide) 9 rfl ?_
  refine z_icmp_ge d_Mod_reads_9 26 12 (by decide) rfl (fun h4 => ?_) (fun h => absurd (by decide) h)
  refine z_iconst d_Mod_reads_26 3 (by decide) 27 rfl ?_
  refine z_istore_n d_Mod_reads_27 28 rfl (by decide) rfl ?_
  refine z_iload_n d_Mod_reads_28 rfl 29 rfl ?_
  refine z_bipush d_Mod_reads_29 6 (by decide) 31 rfl ?_
  refine z_icmp_ge d_Mod_reads_31 47 34 (by decide) rfl (fun h => absurd h (by decide)) (fun h5 => ?_)
  refine z_aload_n d_Mod_reads_34 rfl 35 rfl ?_
  refine z_get d_Mod_reads_35 38 rfl fl_Mod_22_11 wm_45 rfl ?_
  refine z_iload_n d_Mod_reads_38 rfl 39 rfl ?_
  refine z_iconst d_Mod_reads_39 0 (by decide) 40 rfl ?_
  refine z_iastore d_Mod_reads_40 3 41 rfl wm_50 (by decide) (by decide) (by decide) ?_
  refine z_hp ws_50 ?_
  refine z_iinc d_Mod_reads_41 1 (by decide) 44 rfl rfl (by decide) rfl ?_
  refine z_goto d_Mod_reads_44 28 (by decide) ?_
  refine z_iload_n d_Mod_reads_28 rfl 29 rfl ?_
  refine z_bipush d_Mod_reads_29 6 (by decide) 31 rfl ?_
  refine z_icmp_ge d_Mod_reads_31 47 34 (by decide) rfl (fun h => absurd h (by decide)) (fun h6 => ?_)
  refine z_aload_n d_Mod_reads_34 rfl 35 rfl ?_
  refine z_get d_Mod_reads_35 38 rfl fl_Mod_22_11 wm_45 rfl ?_
  refine z_iload_n d_Mod_reads_38 rfl 39 rfl ?_
  refine z_iconst d_Mod_reads_39 0 (by decide) 40 rfl ?_
  refine z_iastore d_Mod_reads_40 4 41 rfl wm_50 (by decide) (by decide) (by decide) ?_
  refine z_hp ws_50 ?_
  refine z_iinc d_Mod_reads_41 1 (by decide) 44 rfl rfl (by decide) rfl ?_
  refine z_goto d_Mod_reads_44 28 (by decide) ?_
  refine z_iload_n d_Mod_reads_28 rfl 29 rfl ?_
  refine z_bipush d_Mod_reads_29 6 (by decide) 31 rfl ?_
  refine z_icmp_ge d_Mod_reads_31 47 34 (by decide) rfl (fun h => absurd h (by decide)) (fun h7 => ?_)
  refine z_aload_n d_Mod_reads_34 rfl 35 rfl ?_
  refine z_get d_Mod_reads_35 38 rfl fl_Mod_22_11 wm_45 rfl ?_
  refine z_iload_n d_Mod_reads_38 rfl 39 rfl ?_
  refine z_iconst d_Mod_reads_39 0 (by decide) 40 rfl ?_
  refine z_iastore d_Mod_reads_40 5 41 rfl wm_50 (by decide) (by decide) (by decide) ?_
  refine z_hp ws_50 ?_
  refine z_iinc d_Mod_reads_41 1 (by decide) 44 rfl rfl (by decide) rfl ?_
  refine z_goto d_Mod_reads_44 28 (by decide) ?_
  refine z_iload_n d_Mod_reads_28 rfl 29 rfl ?_
  refine z_bipush d_Mod_reads_29 6 (by decide) 31 rfl ?_
  refine z_icmp_ge d_Mod_reads_31 47 34 (by decide) rfl (fun h8 => ?_) (fun h => absurd (by decide) h)
  refine z_hp (hp1 := wld K (rf, s, im, mt, rd0 rd, upd sc 2 (nI (0))) tl) (by rw [rd0_eq]; rfl) ?_
  exact z_Lw _ rfl (s_Mod_reads_47 hp hsc 0 (Nat.zero_le _))
def tlS (s : Nat → Int32) (n : Nat) (rd : Nat → Int32) : Nat → Int32 := fun j => if j = 0 then nI n + 1 else if 6 + 6 * n ≤ j ∧ j < 12 + 6 * n then rd (j - (6 + 6 * n)) else s j
theorem tlS_eq (s : Nat → Int32) (n : Nat) (rd : Nat → Int32) : upd (upd (upd (upd (upd (upd (upd s (6 + 6 * n + 0) (rd 0)) (6 + 6 * n + 1) (rd 1)) (6 + 6 * n + 2) (rd 2)) (6 + 6 * n + 3) (rd 3)) (6 + 6 * n + 4) (rd 4)) (6 + 6 * n + 5) (rd 5)) 0 (nI n + 1) = tlS s n rd := by
  funext j
  unfold upd tlS
  by_cases h0 : j = 0
  · simp [h0]
  · by_cases h : 6 + 6 * n ≤ j ∧ j < 12 + 6 * n
    · obtain ⟨k, hk, rfl⟩ : ∃ k, k < 6 ∧ j = 6 + 6 * n + k := ⟨j - (6 + 6 * n), by omega, by omega⟩
      rw [if_neg h0, if_neg h0, if_pos h, show 6 + 6 * n + k - (6 + 6 * n) = k by omega]
      rcases (show k = 0 ∨ k = 1 ∨ k = 2 ∨ k = 3 ∨ k = 4 ∨ k = 5 by omega) with rfl | rfl | rfl | rfl | rfl | rfl <;> simp
    · rw [if_neg h0, if_neg h0, if_neg h, if_neg (by omega), if_neg (by omega), if_neg (by omega), if_neg (by omega), if_neg (by omega), if_neg (by omega)]
set_option maxHeartbeats 400000 in
theorem r_Mod_telling_6 {K : zKK} {rf s im mt rd sc : Nat → Int32} {tl : List zC} (h30 : s 0 = 30) : Ret 5 0 0 m_Mod_telling [.ref 45] (wld K (rf, s, im, mt, rd, sc) tl) (some (.int (-6))) (wld K (rfu rf 6, s, im, mt, rd, sc) tl) := by
  refine Ret.of (n := 2) (by decide) (rfl) rfl (fun X => ?_)
  refine z_aload_n d_Mod_telling_0 rfl 1 rfl ?_
  refine z_get d_Mod_telling_1 4 rfl fl_Mod_13_11 wm_45 rfl ?_
  refine z_iconst d_Mod_telling_4 0 (by decide) 5 rfl ?_
  refine z_iaload d_Mod_telling_5 (0) 6 rfl wm_47 (rfl) (by omega) (by decide) ?_
  refine z_bipush d_Mod_telling_6 30 (by decide) 8 rfl ?_
  refine z_icmp_ne d_Mod_telling_8 18 11 (by decide) rfl (fun h => absurd h30 h) (fun h1 => ?_)
  refine z_aload_n d_Mod_telling_11 rfl 12 rfl ?_
  refine z_bipush d_Mod_telling_12 (-6) (by decide) 14 rfl ?_
  refine z_invv d_Mod_telling_14 17 rfl hm_Mod_refuse lk_Mod_29 im_Mod_refuse sl_Mod_Mod_refuse rfl wm_45 (r_Mod_refuse (-6) 6 (by decide) (by decide)) rfl rfl (by decide) rfl rfl (Nat.le_of_ble_eq_true rfl) ?_
  exact z_ireturn d_Mod_telling_17 (rfl) (rfl)
set_option maxHeartbeats 400000 in
theorem r_Mod_telling_f {K : zKK} {rf s im mt rd sc : Nat → Int32} {tl : List zC} {n : Nat} (hn : s 0 = nI n) (hn30 : n ≤ 30) {p : Nat} (hp : p ≤ 24) (hsc : sc 1 = nI p) (hn3 : n < 30) (hok : (f1 mt p 0 (rd0 rd)).1 = false) : Ret 5 0 0 m_Mod_telling [.ref 45] (wld K (rf, s, im, mt, rd, sc) tl) (some (.int (-20 - nI (f1 mt p 0 (rd0 rd)).2.1))) (wld K (rf, s, im, mt, (f1 mt p 0 (rd0 rd)).2.2, upd (upd sc 2 (nI (f1 mt p 0 (rd0 rd)).2.1)) 1 0) tl) := by
  refine Ret.of (n := 2) (by decide) (rfl) rfl (fun X => ?_)
  refine z_aload_n d_Mod_telling_0 rfl 1 rfl ?_
  refine z_get d_Mod_telling_1 4 rfl fl_Mod_13_11 wm_45 rfl ?_
  refine z_iconst d_Mod_telling_4 0 (by decide) 5 rfl ?_
  refine z_iaload d_Mod_telling_5 (0) 6 rfl wm_47 (rfl) (by omega) (by decide) ?_
  refine z_bipush d_Mod_telling_6 30 (by decide) 8 rfl ?_
  refine z_icmp_ne d_Mod_telling_8 18 11 (by decide) rfl (fun h1 => ?_) (fun h => absurd h (by rw [hn]; exact fun q => absurd ((nI_eq (a := n) (b := 30) (by omega) (by decide)).mp q) (by omega)))
  refine z_aload_n d_Mod_telling_18 rfl 19 rfl ?_
  refine z_invv d_Mod_telling_19 22 rfl hm_Mod_reads lk_Mod_60 im_Mod_reads sl_Mod_Mod_reads rfl wm_45 (r_Mod_reads hp hsc) rfl rfl (by decide) rfl rfl (Nat.le_of_ble_eq_true rfl) ?_
  refine z_istore_n d_Mod_telling_22 23 rfl (by decide) rfl ?_
  refine z_aload_n d_Mod_telling_23 rfl 24 rfl ?_
  refine z_iconst d_Mod_telling_24 0 (by decide) 25 rfl ?_
  refine z_putI d_Mod_telling_25 28 rfl fp_Mod_33_11 (Or.inl rfl) wm_45 (by simp) ?_
  refine z_hp wp_45_6 ?_
  refine z_iload_n d_Mod_telling_28 rfl 29 rfl ?_
  refine z_if_ne d_Mod_telling_29 40 32 (by decide) rfl (fun h => absurd (by rw [hok]; rfl) h) (fun h2 => ?_)
  refine z_bipush d_Mod_telling_32 (-20) (by decide) 34 rfl ?_
  refine z_aload_n d_Mod_telling_34 rfl 35 rfl ?_
  refine z_get d_Mod_telling_35 38 rfl fl_Mod_39_11 wm_45 rfl ?_
  refine z_isub d_Mod_telling_38 39 rfl ?_
  exact z_ireturn d_Mod_telling_39 (rfl) (rfl)
set_option maxHeartbeats 400000 in
theorem r_Mod_telling_t {K : zKK} {rf s im mt rd sc : Nat → Int32} {tl : List zC} {n : Nat} (hn : s 0 = nI n) (hn30 : n ≤ 30) {p : Nat} (hp : p ≤ 24) (hsc : sc 1 = nI p) (hn3 : n < 30) (hok : (f1 mt p 0 (rd0 rd)).1 = true) : Ret 5 0 0 m_Mod_telling [.ref 45] (wld K (rf, s, im, mt, rd, sc) tl) (some (.int (nI n))) (wld K (rf, tlS s n (f1 mt p 0 (rd0 rd)).2.2, im, mt, (f1 mt p 0 (rd0 rd)).2.2, upd (upd sc 2 (nI (f1 mt p 0 (rd0 rd)).2.1)) 1 0) tl) := by
  refine Ret.of (n := 2) (by decide) (rfl) rfl (fun X => ?_)
  refine z_aload_n d_Mod_telling_0 rfl 1 rfl ?_
  refine z_get d_Mod_telling_1 4 rfl fl_Mod_13_11 wm_45 rfl ?_
  refine z_iconst d_Mod_telling_4 0 (by decide) 5 rfl ?_
  refine z_iaload d_Mod_telling_5 (0) 6 rfl wm_47 (rfl) (by omega) (by decide) ?_
  refine z_bipush d_Mod_telling_6 30 (by decide) 8 rfl ?_
  refine z_icmp_ne d_Mod_telling_8 18 11 (by decide) rfl (fun h1 => ?_) (fun h => absurd h (by rw [hn]; exact fun q => absurd ((nI_eq (a := n) (b := 30) (by omega) (by decide)).mp q) (by omega)))
  refine z_aload_n d_Mod_telling_18 rfl 19 rfl ?_
  refine z_invv d_Mod_telling_19 22 rfl hm_Mod_reads lk_Mod_60 im_Mod_reads sl_Mod_Mod_reads rfl wm_45 (r_Mod_reads hp hsc) rfl rfl (by decide) rfl rfl (Nat.le_of_ble_eq_true rfl) ?_
  refine z_istore_n d_Mod_telling_22 23 rfl (by decide) rfl ?_
  refine z_aload_n d_Mod_telling_23 rfl 24 rfl ?_
  refine z_iconst d_Mod_telling_24 0 (by decide) 25 rfl ?_
  refine z_putI d_Mod_telling_25 28 rfl fp_Mod_33_11 (Or.inl rfl) wm_45 (by simp) ?_
  refine z_hp wp_45_6 ?_
  refine z_iload_n d_Mod_telling_28 rfl 29 rfl ?_
  refine z_if_ne d_Mod_telling_29 40 32 (by decide) rfl (fun h2 => ?_) (fun h => absurd h (by rw [hok]; decide))
  refine z_iconst d_Mod_telling_40 0 (by decide) 41 rfl ?_
  refine z_istore_n d_Mod_telling_41 42 rfl (by decide) rfl ?_
  refine z_iload_n d_Mod_telling_42 rfl 43 rfl ?_
  refine z_bipush d_Mod_telling_43 6 (by decide) 45 rfl ?_
  refine z_icmp_ge d_Mod_telling_45 79 48 (by decide) rfl (fun h => absurd h (by decide)) (fun h3 => ?_)
  refine z_aload_n d_Mod_telling_48 rfl 49 rfl ?_
  refine z_get d_Mod_telling_49 52 rfl fl_Mod_13_11 wm_45 rfl ?_
  refine z_bipush d_Mod_telling_52 6 (by decide) 54 rfl ?_
  refine z_bipush d_Mod_telling_54 6 (by decide) 56 rfl ?_
  refine z_aload_n d_Mod_telling_56 rfl 57 rfl ?_
  refine z_get d_Mod_telling_57 60 rfl fl_Mod_13_11 wm_45 rfl ?_
  refine z_iconst d_Mod_telling_60 0 (by decide) 61 rfl ?_
  refine z_iaload d_Mod_telling_61 0 62 rfl wm_47 rfl (by decide) (by decide) ?_
  refine z_top (.int (nI n)) (by simp [upd, hn, show ¬ (0 = 6 + 6 * n) by omega]) ?_
  refine z_imul d_Mod_telling_62 63 rfl ?_
  refine z_iadd d_Mod_telling_63 64 rfl ?_
  refine z_iload_n d_Mod_telling_64 rfl 65 rfl ?_
  refine z_iadd d_Mod_telling_65 66 rfl ?_
  refine z_aload_n d_Mod_telling_66 rfl 67 rfl ?_
  refine z_get d_Mod_telling_67 70 rfl fl_Mod_22_11 wm_45 rfl ?_
  refine z_iload_n d_Mod_telling_70 rfl 71 rfl ?_
  refine z_iaload d_Mod_telling_71 0 72 rfl wm_50 (by decide) (by decide) (by decide) ?_
  refine z_iastore d_Mod_telling_72 (6 + 6 * n + 0) 73 rfl wm_47 (by show nI 6 + nI 6 * nI n + nI 0 = _; simp only [pk_mul, nI_add]) (by omega) (by decide) ?_
  refine z_hp ws_47 ?_
  refine z_iinc d_Mod_telling_73 1 (by decide) 76 rfl rfl (by decide) rfl ?_
  refine z_goto d_Mod_telling_76 42 (by decide) ?_
  refine z_iload_n d_Mod_telling_42 rfl 43 rfl ?_
  refine z_bipush d_Mod_telling_43 6 (by decide) 45 rfl ?_
  refine z_icmp_ge d_Mod_telling_45 79 48 (by decide) rfl (fun h => absurd h (by decide)) (fun h4 => ?_)
  refine z_aload_n d_Mod_telling_48 rfl 49 rfl ?_
  refine z_get d_Mod_telling_49 52 rfl fl_Mod_13_11 wm_45 rfl ?_
  refine z_bipush d_Mod_telling_52 6 (by decide) 54 rfl ?_
  refine z_bipush d_Mod_telling_54 6 (by decide) 56 rfl ?_
  refine z_aload_n d_Mod_telling_56 rfl 57 rfl ?_
  refine z_get d_Mod_telling_57 60 rfl fl_Mod_13_11 wm_45 rfl ?_
  refine z_iconst d_Mod_telling_60 0 (by decide) 61 rfl ?_
  refine z_iaload d_Mod_telling_61 0 62 rfl wm_47 rfl (by decide) (by decide) ?_
  refine z_top (.int (nI n)) (by simp [upd, hn, show ¬ (0 = 6 + 6 * n) by omega]) ?_
  refine z_imul d_Mod_telling_62 63 rfl ?_
  refine z_iadd d_Mod_telling_63 64 rfl ?_
  refine z_iload_n d_Mod_telling_64 rfl 65 rfl ?_
  refine z_iadd d_Mod_telling_65 66 rfl ?_
  refine z_aload_n d_Mod_telling_66 rfl 67 rfl ?_
  refine z_get d_Mod_telling_67 70 rfl fl_Mod_22_11 wm_45 rfl ?_
  refine z_iload_n d_Mod_telling_70 rfl 71 rfl ?_
  refine z_iaload d_Mod_telling_71 1 72 rfl wm_50 (by decide) (by decide) (by decide) ?_
  refine z_iastore d_Mod_telling_72 (6 + 6 * n + 1) 73 rfl wm_47 (by show nI 6 + nI 6 * nI n + nI 1 = _; simp only [pk_mul, nI_add]) (by omega) (by decide) ?_
  refine z_hp ws_47 ?_
  refine z_iinc d_Mod_telling_73 1 (by decide) 76 rfl rfl (by decide) rfl ?_
  refine z_goto d_Mod_telling_76 42 (by decide) ?_
  refine z_iload_n d_Mod_telling_42 rfl 43 rfl ?_
  refine z_bipush d_Mod_telling_43 6 (by decide) 45 rfl ?_
  refine z_icmp_ge d_Mod_telling_45 79 48 (by decide) rfl (fun h => absurd h (by decide)) (fun h5 => ?_)
  refine z_aload_n d_Mod_telling_48 rfl 49 rfl ?_
  refine z_get d_Mod_telling_49 52 rfl fl_Mod_13_11 wm_45 rfl ?_
  refine z_bipush d_Mod_telling_52 6 (by decide) 54 rfl ?_
  refine z_bipush d_Mod_telling_54 6 (by decide) 56 rfl ?_
  refine z_aload_n d_Mod_telling_56 rfl 57 rfl ?_
  refine z_get d_Mod_telling_57 60 rfl fl_Mod_13_11 wm_45 rfl ?_
  refine z_iconst d_Mod_telling_60 0 (by decide) 61 rfl ?_
  refine z_iaload d_Mod_telling_61 0 62 rfl wm_47 rfl (by decide) (by decide) ?_
  refine z_top (.int (nI n)) (by simp [upd, hn, show ¬ (0 = 6 + 6 * n) by omega]) ?_
  refine z_imul d_Mod_telling_62 63 rfl ?_
  refine z_iadd d_Mod_telling_63 64 rfl ?_
  refine z_iload_n d_Mod_telling_64 rfl 65 rfl ?_
  refine z_iadd d_Mod_telling_65 66 rfl ?_
  refine z_aload_n d_Mod_telling_66 rfl 67 rfl ?_
  refine z_get d_Mod_telling_67 70 rfl fl_Mod_22_11 wm_45 rfl ?_
  refine z_iload_n d_Mod_telling_70 rfl 71 rfl ?_
  refine z_iaload d_Mod_telling_71 2 72 rfl wm_50 (by decide) (by decide) (by decide) ?_
  refine z_iastore d_Mod_telling_72 (6 + 6 * n + 2) 73 rfl wm_47 (by show nI 6 + nI 6 * nI n + nI 2 = _; simp only [pk_mul, nI_add]) (by omega) (by decide) ?_
  refine z_hp ws_47 ?_
  refine z_iinc d_Mod_telling_73 1 (by decide) 76 rfl rfl (by decide) rfl ?_
  refine z_goto d_Mod_telling_76 42 (by decide) ?_
  refine z_iload_n d_Mod_telling_42 rfl 43 rfl ?_
  refine z_bipush d_Mod_telling_43 6 (by decide) 45 rfl ?_
  refine z_icmp_ge d_Mod_telling_45 79 48 (by decide) rfl (fun h => absurd h (by decide)) (fun h6 => ?_)
  refine z_aload_n d_Mod_telling_48 rfl 49 rfl ?_
  refine z_get d_Mod_telling_49 52 rfl fl_Mod_13_11 wm_45 rfl ?_
  refine z_bipush d_Mod_telling_52 6 (by decide) 54 rfl ?_
  refine z_bipush d_Mod_telling_54 6 (by decide) 56 rfl ?_
  refine z_aload_n d_Mod_telling_56 rfl 57 rfl ?_
  refine z_get d_Mod_telling_57 60 rfl fl_Mod_13_11 wm_45 rfl ?_
  refine z_iconst d_Mod_telling_60 0 (by decide) 61 rfl ?_
  refine z_iaload d_Mod_telling_61 0 62 rfl wm_47 rfl (by decide) (by decide) ?_
  refine z_top (.int (nI n)) (by simp [upd, hn, show ¬ (0 = 6 + 6 * n) by omega]) ?_
  refine z_imul d_Mod_telling_62 63 rfl ?_
  refine z_iadd d_Mod_telling_63 64 rfl ?_
  refine z_iload_n d_Mod_telling_64 rfl 65 rfl ?_
  refine z_iadd d_Mod_telling_65 66 rfl ?_
  refine z_aload_n d_Mod_telling_66 rfl 67 rfl ?_
  refine z_get d_Mod_telling_67 70 rfl fl_Mod_22_11 wm_45 rfl ?_
  refine z_iload_n d_Mod_telling_70 rfl 71 rfl ?_
  refine z_iaload d_Mod_telling_71 3 72 rfl wm_50 (by decide) (by decide) (by decide) ?_
  refine z_iastore d_Mod_telling_72 (6 + 6 * n + 3) 73 rfl wm_47 (by show nI 6 + nI 6 * nI n + nI 3 = _; simp only [pk_mul, nI_add]) (by omega) (by decide) ?_
  refine z_hp ws_47 ?_
  refine z_iinc d_Mod_telling_73 1 (by decide) 76 rfl rfl (by decide) rfl ?_
  refine z_goto d_Mod_telling_76 42 (by decide) ?_
  refine z_iload_n d_Mod_telling_42 rfl 43 rfl ?_
  refine z_bipush d_Mod_telling_43 6 (by decide) 45 rfl ?_
  refine z_icmp_ge d_Mod_telling_45 79 48 (by decide) rfl (fun h => absurd h (by decide)) (fun h7 => ?_)
  refine z_aload_n d_Mod_telling_48 rfl 49 rfl ?_
  refine z_get d_Mod_telling_49 52 rfl fl_Mod_13_11 wm_45 rfl ?_
  refine z_bipush d_Mod_telling_52 6 (by decide) 54 rfl ?_
  refine z_bipush d_Mod_telling_54 6 (by decide) 56 rfl ?_
  refine z_aload_n d_Mod_telling_56 rfl 57 rfl ?_
  refine z_get d_Mod_telling_57 60 rfl fl_Mod_13_11 wm_45 rfl ?_
  refine z_iconst d_Mod_telling_60 0 (by decide) 61 rfl ?_
  refine z_iaload d_Mod_telling_61 0 62 rfl wm_47 rfl (by decide) (by decide) ?_
  refine z_top (.int (nI n)) (by simp [upd, hn, show ¬ (0 = 6 + 6 * n) by omega]) ?_
  refine z_imul d_Mod_telling_62 63 rfl ?_
  refine z_iadd d_Mod_telling_63 64 rfl ?_
  refine z_iload_n d_Mod_telling_64 rfl 65 rfl ?_
  refine z_iadd d_Mod_telling_65 66 rfl ?_
  refine z_aload_n d_Mod_telling_66 rfl 67 rfl ?_
  refine z_get d_Mod_telling_67 70 rfl fl_Mod_22_11 wm_45 rfl ?_
  refine z_iload_n d_Mod_telling_70 rfl 71 rfl ?_
  refine z_iaload d_Mod_telling_71 4 72 rfl wm_50 (by decide) (by decide) (by decide) ?_
  refine z_iastore d_Mod_telling_72 (6 + 6 * n + 4) 73 rfl wm_47 (by show nI 6 + nI 6 * nI n + nI 4 = _; simp only [pk_mul, nI_add]) (by omega) (by decide) ?_
  refine z_hp ws_47 ?_
  refine z_iinc d_Mod_telling_73 1 (by decide) 76 rfl rfl (by decide) rfl ?_
  refine z_goto d_Mod_telling_76 42 (by decide) ?_
  refine z_iload_n d_Mod_telling_42 rfl 43 rfl ?_
  refine z_bipush d_Mod_telling_43 6 (by decide) 45 rfl ?_
  refine z_icmp_ge d_Mod_telling_45 79 48 (by decide) rfl (fun h => absurd h (by decide)) (fun h8 => ?_)
  refine z_aload_n d_Mod_telling_48 rfl 49 rfl ?_
  refine z_get d_Mod_telling_49 52 rfl fl_Mod_13_11 wm_45 rfl ?_
  refine z_bipush d_Mod_telling_52 6 (by decide) 54 rfl ?_
  refine z_bipush d_Mod_telling_54 6 (by decide) 56 rfl ?_
  refine z_aload_n d_Mod_telling_56 rfl 57 rfl ?_
  refine z_get d_Mod_telling_57 60 rfl fl_Mod_13_11 wm_45 rfl ?_
  refine z_iconst d_Mod_telling_60 0 (by decide) 61 rfl ?_
  refine z_iaload d_Mod_telling_61 0 62 rfl wm_47 rfl (by decide) (by decide) ?_
  refine z_top (.int (nI n)) (by simp [upd, hn, show ¬ (0 = 6 + 6 * n) by omega]) ?_
  refine z_imul d_Mod_telling_62 63 rfl ?_
  refine z_iadd d_Mod_telling_63 64 rfl ?_
  refine z_iload_n d_Mod_telling_64 rfl 65 rfl ?_
  refine z_iadd d_Mod_telling_65 66 rfl ?_
  refine z_aload_n d_Mod_telling_66 rfl 67 rfl ?_
  refine z_get d_Mod_telling_67 70 rfl fl_Mod_22_11 wm_45 rfl ?_
  refine z_iload_n d_Mod_telling_70 rfl 71 rfl ?_
  refine z_iaload d_Mod_telling_71 5 72 rfl wm_50 (by decide) (by decide) (by decide) ?_
  refine z_iastore d_Mod_telling_72 (6 + 6 * n + 5) 73 rfl wm_47 (by show nI 6 + nI 6 * nI n + nI 5 = _; simp only [pk_mul, nI_add]) (by omega) (by decide) ?_
  refine z_hp ws_47 ?_
  refine z_iinc d_Mod_telling_73 1 (by decide) 76 rfl rfl (by decide) rfl ?_
  refine z_goto d_Mod_telling_76 42 (by decide) ?_
  refine z_iload_n d_Mod_telling_42 rfl 43 rfl ?_
  refine z_bipush d_Mod_telling_43 6 (by decide) 45 rfl ?_
  refine z_icmp_ge d_Mod_telling_45 79 48 (by decide) rfl (fun h9 => ?_) (fun h => absurd (by decide) h)
  refine z_aload_n d_Mod_telling_79 rfl 80 rfl ?_
  refine z_get d_Mod_telling_80 83 rfl fl_Mod_13_11 wm_45 rfl ?_
  refine z_iconst d_Mod_telling_83 0 (by decide) 84 rfl ?_
  refine z_dup2 d_Mod_telling_84 rfl rfl 85 rfl ?_
  refine z_iaload d_Mod_telling_85 0 86 rfl wm_47 rfl (by decide) (by decide) ?_
  refine z_top (.int (nI n)) (by simp [upd, hn, show ¬ (0 = 6 + 6 * n) by omega]) ?_
  refine z_iconst d_Mod_telling_86 1 (by decide) 87 rfl ?_
  refine z_iadd d_Mod_telling_87 88 rfl ?_
  refine z_iastore d_Mod_telling_88 0 89 rfl wm_47 rfl (by decide) (by decide) ?_
  refine z_hp (ws_47.trans (by rw [tlS_eq])) ?_
  refine z_aload_n d_Mod_telling_89 rfl 90 rfl ?_
  refine z_get d_Mod_telling_90 93 rfl fl_Mod_13_11 wm_45 rfl ?_
  refine z_iconst d_Mod_telling_93 0 (by decide) 94 rfl ?_
  refine z_iaload d_Mod_telling_94 0 95 rfl wm_47 rfl (by decide) (by decide) ?_
  refine z_top (.int (nI n + 1)) rfl ?_
  refine z_iconst d_Mod_telling_95 1 (by decide) 96 rfl ?_
  refine z_isub d_Mod_telling_96 97 rfl ?_
  exact z_ireturn d_Mod_telling_97 (by rw [show nI n + 1 - 1 = nI n from by rw [nI_1]; exact nI_pred n]) (rfl)
theorem upd_same {f : Nat → Int32} {k : Nat} {v : Int32} (h : f k = v) : upd f k v = f := by
  funext j; unfold upd; by_cases hj : j = k
  · rw [if_pos hj, hj, h]
  · rw [if_neg hj]
def byM (b : Int64) (k : Nat) : Int32 := ((b >>> ((8 * nI k).toInt64 &&& 63)) &&& 255).toInt32
def fdT (mt : Nat → Int32) (p : Nat) (b : Int64) (k : Nat) : Nat → Int32 := fun j => if p ≤ j ∧ j < p + k then byM b (j - p) else mt j
theorem fdT_0 (mt : Nat → Int32) (p : Nat) (b : Int64) : fdT mt p b 0 = mt := by
  funext j; unfold fdT; rw [if_neg (by omega)]
theorem fdT_s (mt : Nat → Int32) (p : Nat) (b : Int64) (k : Nat) : upd (fdT mt p b k) (p + k) (byM b k) = fdT mt p b (k + 1) := by
  funext j; unfold upd fdT
  by_cases h : j = p + k
  · subst h; rw [if_pos rfl, if_pos (by omega), show p + k - p = k by omega]
  · rw [if_neg h]
    by_cases h2 : p ≤ j ∧ j < p + k
    · rw [if_pos h2, if_pos (by omega)]
    · rw [if_neg h2, if_neg (by omega)]
set_option maxHeartbeats 400000 in
theorem r_Mod_feed_4 {K : zKK} {rf s im mt rd sc : Nat → Int32} {tl : List zC} (m : Int32) (b : Int64) (hA : m < 1) : Ret 1 0 0 m_Mod_feed [.ref 45, .int m, .long b] (wld K (rf, s, im, mt, rd, sc) tl) (some (.int (-4))) (wld K (rfu rf 4, s, im, mt, rd, sc) tl) := by
  refine Ret.of (n := 1) (by decide) (rfl) rfl (fun X => ?_)
  refine z_iload_n d_Mod_feed_0 rfl 1 rfl ?_
  refine z_iconst d_Mod_feed_1 1 (by decide) 2 rfl ?_
  refine z_icmp_ge d_Mod_feed_2 12 5 (by decide) rfl (fun h => absurd h (Int32.not_le.mpr hA)) (fun h1 => ?_)
  refine z_aload_n d_Mod_feed_5 rfl 6 rfl ?_
  refine z_bipush d_Mod_feed_6 (-4) (by decide) 8 rfl ?_
  refine z_invv d_Mod_feed_8 11 rfl hm_Mod_refuse lk_Mod_29 im_Mod_refuse sl_Mod_Mod_refuse rfl wm_45 (r_Mod_refuse (-4) 4 (by decide) (by decide)) rfl rfl (by decide) rfl rfl (Nat.le_of_ble_eq_true rfl) ?_
  exact z_ireturn d_Mod_feed_11 (rfl) (rfl)
set_option maxHeartbeats 400000 in
theorem r_Mod_feed_6 {K : zKK} {rf s im mt rd sc : Nat → Int32} {tl : List zC} (m : Int32) (b : Int64) (hA : ¬ m < 1) (hB : 8 < m) : Ret 1 0 0 m_Mod_feed [.ref 45, .int m, .long b] (wld K (rf, s, im, mt, rd, sc) tl) (some (.int (-6))) (wld K (rfu rf 6, s, im, mt, rd, sc) tl) := by
  refine Ret.of (n := 1) (by decide) (rfl) rfl (fun X => ?_)
  refine z_iload_n d_Mod_feed_0 rfl 1 rfl ?_
  refine z_iconst d_Mod_feed_1 1 (by decide) 2 rfl ?_
  refine z_icmp_ge d_Mod_feed_2 12 5 (by decide) rfl (fun h1 => ?_) (fun h => absurd (Int32.not_lt.mp hA) h)
  refine z_iload_n d_Mod_feed_12 rfl 13 rfl ?_
  refine z_bipush d_Mod_feed_13 8 (by decide) 15 rfl ?_
  refine z_icmp_gt d_Mod_feed_15 29 18 (by decide) rfl (fun h2 => ?_) (fun h => absurd hB h)
  refine z_aload_n d_Mod_feed_29 rfl 30 rfl ?_
  refine z_bipush d_Mod_feed_30 (-6) (by decide) 32 rfl ?_
  refine z_invv d_Mod_feed_32 35 rfl hm_Mod_refuse lk_Mod_29 im_Mod_refuse sl_Mod_Mod_refuse rfl wm_45 (r_Mod_refuse (-6) 6 (by decide) (by decide)) rfl rfl (by decide) rfl rfl (Nat.le_of_ble_eq_true rfl) ?_
  exact z_ireturn d_Mod_feed_35 (rfl) (rfl)
set_option maxHeartbeats 400000 in
theorem r_Mod_feed_7 {K : zKK} {rf s im mt rd sc : Nat → Int32} {tl : List zC} (m : Int32) (b : Int64) (hA : ¬ m < 1) (hB : ¬ 8 < m) (hC : ¬ sc 1 + m ≤ 24) : Ret 1 0 0 m_Mod_feed [.ref 45, .int m, .long b] (wld K (rf, s, im, mt, rd, sc) tl) (some (.int (-6))) (wld K (rfu rf 6, s, im, mt, rd, sc) tl) := by
  refine Ret.of (n := 1) (by decide) (rfl) rfl (fun X => ?_)
  refine z_iload_n d_Mod_feed_0 rfl 1 rfl ?_
  refine z_iconst d_Mod_feed_1 1 (by decide) 2 rfl ?_
  refine z_icmp_ge d_Mod_feed_2 12 5 (by decide) rfl (fun h1 => ?_) (fun h => absurd (Int32.not_lt.mp hA) h)
  refine z_iload_n d_Mod_feed_12 rfl 13 rfl ?_
  refine z_bipush d_Mod_feed_13 8 (by decide) 15 rfl ?_
  refine z_icmp_gt d_Mod_feed_15 29 18 (by decide) rfl (fun h => absurd h hB) (fun h2 => ?_)
  refine z_aload_n d_Mod_feed_18 rfl 19 rfl ?_
  refine z_get d_Mod_feed_19 22 rfl fl_Mod_33_11 wm_45 rfl ?_
  refine z_iload_n d_Mod_feed_22 rfl 23 rfl ?_
  refine z_iadd d_Mod_feed_23 24 rfl ?_
  refine z_bipush d_Mod_feed_24 24 (by decide) 26 rfl ?_
  refine z_icmp_le d_Mod_feed_26 36 29 (by decide) rfl (fun h => absurd h hC) (fun h3 => ?_)
  refine z_aload_n d_Mod_feed_29 rfl 30 rfl ?_
  refine z_bipush d_Mod_feed_30 (-6) (by decide) 32 rfl ?_
  refine z_invv d_Mod_feed_32 35 rfl hm_Mod_refuse lk_Mod_29 im_Mod_refuse sl_Mod_Mod_refuse rfl wm_45 (r_Mod_refuse (-6) 6 (by decide) (by decide)) rfl rfl (by decide) rfl rfl (Nat.le_of_ble_eq_true rfl) ?_
  exact z_ireturn d_Mod_feed_35 (rfl) (rfl)
set_option maxHeartbeats 400000 in
theorem r_Mod_feed_0 {K : zKK} {rf s im mt rd sc : Nat → Int32} {tl : List zC} (m p : Nat) (b : Int64) (hsc : sc 1 = nI p) (hm1 : 1 ≤ m) (hm8 : m ≤ 8) (hpm : p + m ≤ 24) : Ret 1 0 0 m_Mod_feed [.ref 45, .int (nI m), .long b] (wld K (rf, s, im, mt, rd, sc) tl) (some (.int (nI (p + m)))) (wld K (rf, s, im, fdT mt p b m, rd, upd sc 1 (nI (p + m))) tl) := by
  refine Ret.of (n := 1) (by decide) (rfl) rfl (fun X => ?_)
  refine z_iload_n d_Mod_feed_0 rfl 1 rfl ?_
  refine z_iconst d_Mod_feed_1 1 (by decide) 2 rfl ?_
  refine z_icmp_ge d_Mod_feed_2 12 5 (by decide) rfl (fun h1 => ?_) (fun h => absurd (show nI 1 ≤ nI m from nI_le hm1 (by omega)) h)
  refine z_iload_n d_Mod_feed_12 rfl 13 rfl ?_
  refine z_bipush d_Mod_feed_13 8 (by decide) 15 rfl ?_
  refine z_icmp_gt d_Mod_feed_15 29 18 (by decide) rfl (fun h => absurd h (show ¬ nI 8 < nI m from nI_nlt hm8 (by decide))) (fun h2 => ?_)
  refine z_aload_n d_Mod_feed_18 rfl 19 rfl ?_
  refine z_get d_Mod_feed_19 22 rfl fl_Mod_33_11 wm_45 rfl ?_
  refine z_iload_n d_Mod_feed_22 rfl 23 rfl ?_
  refine z_iadd d_Mod_feed_23 24 rfl ?_
  refine z_bipush d_Mod_feed_24 24 (by decide) 26 rfl ?_
  refine z_icmp_le d_Mod_feed_26 36 29 (by decide) rfl (fun h3 => ?_) (fun h => absurd (by show sc 1 + nI m ≤ nI 24; rw [hsc, nI_add]; exact nI_le hpm (by decide)) h)
  refine z_iconst d_Mod_feed_36 0 (by decide) 37 rfl ?_
  refine z_istore d_Mod_feed_37 39 rfl (by decide) rfl ?_
  refine z_hp (hp1 := wld K (rf, s, im, fdT mt p b 0, rd, upd sc 1 (nI (p + 0))) tl) (by rw [fdT_0, show upd sc 1 (nI (p + 0)) = sc from upd_same hsc]) ?_
  refine zloop (fun k => Z X m_Mod_feed 1 0 0 (some (.int (nI (p + m)))) (wld K (rf, s, im, fdT mt p b m, rd, upd sc 1 (nI (p + m))) tl) 39 [some (.ref 45), some (.int (nI m)), some (.long b), none, some (.int (nI k))] [] (wld K (rf, s, im, fdT mt p b (k), rd, upd sc 1 (nI (p + k))) tl)) (m) ?_ ?_ 0 (Nat.zero_le _)
  · refine z_iload d_Mod_feed_39 rfl 41 rfl ?_
    refine z_iload_n d_Mod_feed_41 rfl 42 rfl ?_
    refine z_icmp_ge d_Mod_feed_42 82 45 (by decide) rfl (fun h4 => ?_) (fun h => absurd (Int32.le_refl _) h)
    refine z_aload_n d_Mod_feed_82 rfl 83 rfl ?_
    refine z_get d_Mod_feed_83 86 rfl fl_Mod_33_11 wm_45 rfl ?_
    refine z_top (.int (nI (p + m))) rfl ?_
    exact z_ireturn d_Mod_feed_86 (rfl) (rfl)
  · intro k hk ih
    refine z_iload d_Mod_feed_39 rfl 41 rfl ?_
    refine z_iload_n d_Mod_feed_41 rfl 42 rfl ?_
    refine z_icmp_ge d_Mod_feed_42 82 45 (by decide) rfl (fun h => absurd h (nI_ge hk (by omega))) (fun h5 => ?_)
    refine z_aload_n d_Mod_feed_45 rfl 46 rfl ?_
    refine z_get d_Mod_feed_46 49 rfl fl_Mod_19_11 wm_45 rfl ?_
    refine z_aload_n d_Mod_feed_49 rfl 50 rfl ?_
    refine z_get d_Mod_feed_50 53 rfl fl_Mod_33_11 wm_45 rfl ?_
    refine z_top (.int (nI (p + k))) rfl ?_
    refine z_lload_n d_Mod_feed_53 rfl 54 rfl ?_
    refine z_bipush d_Mod_feed_54 8 (by decide) 56 rfl ?_
    refine z_iload d_Mod_feed_56 rfl 58 rfl ?_
    refine z_imul d_Mod_feed_58 59 rfl ?_
    refine z_lshr d_Mod_feed_59 60 rfl ?_
    refine z_ldc2_w d_Mod_feed_60 kn_Mod_37 63 rfl ?_
    refine z_land d_Mod_feed_63 64 rfl ?_
    refine z_l2i d_Mod_feed_64 65 rfl ?_
    refine z_iastore d_Mod_feed_65 (p + k) 66 rfl wm_49 rfl (by omega) (by decide) ?_
    refine z_hp (ws_49.trans (by rw [show ((b >>> ((8 * nI k).toInt64 &&& 63)) &&& 255).toInt32 = byM b k from rfl, fdT_s])) ?_
    refine z_aload_n d_Mod_feed_66 rfl 67 rfl ?_
    refine z_dup d_Mod_feed_67 rfl 68 rfl ?_
    refine z_get d_Mod_feed_68 71 rfl fl_Mod_33_11 wm_45 rfl ?_
    refine z_top (.int (nI (p + k))) rfl ?_
    refine z_iconst d_Mod_feed_71 1 (by decide) 72 rfl ?_
    refine z_iadd d_Mod_feed_72 73 rfl ?_
    refine z_putI d_Mod_feed_73 76 rfl fp_Mod_33_11 (Or.inl rfl) wm_45 (by simp) ?_
    refine z_hp (wp_45_6.trans (by rw [uu, show nI (p + k) + 1 = nI (p + (k + 1)) from nI_1 (p + k)])) ?_
    refine z_iinc d_Mod_feed_76 1 (by decide) 79 rfl rfl (by decide) rfl ?_
    refine z_goto d_Mod_feed_79 39 (by decide) ?_
    exact z_L _ (by simp [List.set, nI_succ]) ih
