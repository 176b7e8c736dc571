set_option maxHeartbeats 400000 in
theorem r_Lir_seen {tk : Int32} {tp bt crf nt : Nat → Int32} {T PF PS : Nat → Option Nat} {C : Nat → Nat → Int32} {rc g pp bn sc : Nat → Int32} {b : zR} {u : zU} {tl : List zC} {s : Nat → Int32} {n : Nat} (hn : sc 0 = nI n) (hn30 : n ≤ 30) (hTT : TT tl T s n) (l : Int32) : Ret 6 0 0 m_Lir_seen [.ref 0, .int l] (wld (tk, tp, bt, (T, C, rc, PF, PS, g, pp, bn, sc), b, crf, nt) u tl) (some (.int ((if inR l 6 = true then sm (fun i => if bk C g (sc 3) s i (ix l) = 0 then 1 else 0) n else -1)))) (wld (tk, tp, bt, (T, C, rc, PF, PS, g, pp, bn, sc), b, (if inR l 6 = true then crf else rfu crf 1), nt) u tl) := by
  refine Ret.of (n := 1) (by decide) (rfl) rfl (fun X => ?_)
  refine z_aload_n d_Lir_seen_0 rfl 1 rfl ?_
  refine z_get d_Lir_seen_1 4 rfl fl_Lir_19_10 wc_0 rfl ?_
  refine z_iload_n d_Lir_seen_4 rfl 5 rfl ?_
  by_cases hv1 : inR l 6 = true
  · obtain ⟨i2, hi2, rfl⟩ := inR_yes (n := 6) hv1 rfl (by decide)
    have hci2 : (nI i2).toNatClampNeg = i2 := nI_clamp (by omega)
    refine z_invv d_Lir_seen_5 8 rfl hm_Roo_lawAt lk_Lir_104 im_Roo_lawAt sl_Roo_Roo_lawAt rfl wc_3 (r_Roo_lawAt_s i2 hi2) rfl rfl (by decide) rfl rfl (Nat.le_of_ble_eq_true rfl) ?_
    refine z_astore_n d_Lir_seen_8 9 rfl (by decide) rfl ?_
    refine z_aload_n d_Lir_seen_9 rfl 10 rfl ?_
    refine z_ifnonnull d_Lir_seen_10 21 (by decide) ?_
    refine z_aload_n d_Lir_seen_21 rfl 22 rfl ?_
    refine z_get d_Lir_seen_22 25 rfl fl_Lir_19_10 wc_0 rfl ?_
    refine z_aload_n d_Lir_seen_25 rfl 26 rfl ?_
    refine z_invv d_Lir_seen_26 29 rfl hm_Roo_howManyFit lk_Lir_226 im_Roo_howManyFit sl_Roo_Roo_howManyFit rfl wc_3 (r_Roo_howManyFit hn hn30 hTT _ hi2) rfl rfl (by decide) rfl rfl (Nat.le_of_ble_eq_true rfl) ?_
    exact z_ireturn d_Lir_seen_29 (by simp_all [zb_eq, zb_ne, ← Int32.not_le]) (by simp_all [zb_eq, zb_ne, ← Int32.not_le])
  · have hv1 : inR l 6 = false := by simpa using hv1
    refine z_invv d_Lir_seen_5 8 rfl hm_Roo_lawAt lk_Lir_104 im_Roo_lawAt sl_Roo_Roo_lawAt rfl wc_3 (r_Roo_lawAt_n _ hv1) rfl rfl (by decide) rfl rfl (Nat.le_of_ble_eq_true rfl) ?_
    refine z_astore_nN d_Lir_seen_8 9 rfl (by decide) rfl ?_
    refine z_aload_nN d_Lir_seen_9 rfl 10 rfl ?_
    refine z_ifnonnullN d_Lir_seen_10 13 rfl ?_
    refine z_aload_n d_Lir_seen_13 rfl 14 rfl ?_
    refine z_iconst d_Lir_seen_14 (-1) (by decide) 15 rfl ?_
    refine z_invv d_Lir_seen_15 18 rfl hm_Lir_refuse lk_Lir_37 im_Lir_refuse sl_Lir_Lir_refuse rfl wc_0 (r_Lir_refuse (-1) 1 (by decide) (by decide)) rfl rfl (by decide) rfl rfl (Nat.le_of_ble_eq_true rfl) ?_
    refine z_goto d_Lir_seen_18 29 (by decide) ?_
    exact z_ireturn d_Lir_seen_29 (by simp_all [zb_eq, zb_ne, ← Int32.not_le]) (by simp_all [zb_eq, zb_ne, ← Int32.not_le])
/-- a law's reach, as the class holds it -/
def RGc (rc : Nat → Int32) : Prop := ∀ l, l < 6 → rc l = nI (ix (rc l)) ∧ ix (rc l) ≤ 10
set_option maxHeartbeats 400000 in
theorem r_Roo_shownTo {tk : Int32} {tp bt crf nt : Nat → Int32} {T PF PS : Nat → Option Nat} {C : Nat → Nat → Int32} {rc g pp bn sc : Nat → Int32} {b : zR} {u : zU} {tl : List zC} (hr : RGc rc) (l : Nat) (hl : l < 6) : Ret 0 0 0 m_Roo_shownTo [.ref 3, .ref (6 + 2 * l)] (wld (tk, tp, bt, (T, C, rc, PF, PS, g, pp, bn, sc), b, crf, nt) u tl) (some (.int (sc 2 * sm pp (ix (rc l))))) (wld (tk, tp, bt, (T, C, rc, PF, PS, g, pp, bn, sc), b, crf, nt) u tl) := by
  refine Ret.of (n := 2) (by decide) (rfl) rfl (fun X => ?_)
  refine z_iconst d_Roo_shownTo_0 0 (by decide) 1 rfl ?_
  refine z_istore_n d_Roo_shownTo_1 2 rfl (by decide) rfl ?_
  refine z_iconst d_Roo_shownTo_2 0 (by decide) 3 rfl ?_
  refine z_istore_n d_Roo_shownTo_3 4 rfl (by decide) rfl ?_
  refine zloop (fun i => Z X m_Roo_shownTo 0 0 0 (some (.int (sc 2 * sm pp (ix (rc l))))) (wld (tk, tp, bt, (T, C, rc, PF, PS, g, pp, bn, sc), b, crf, nt) u tl) 4 [some (.ref 3), some (.ref (6 + 2 * l)), some (.int (sm pp i)), some (.int (nI i))] [] (wld (tk, tp, bt, (T, C, rc, PF, PS, g, pp, bn, sc), b, crf, nt) u tl)) (ix (rc l)) ?_ ?_ 0 (Nat.zero_le _)
  · refine z_iload_n d_Roo_shownTo_4 rfl 5 rfl ?_
    refine z_aload_n d_Roo_shownTo_5 rfl 6 rfl ?_
    refine z_get d_Roo_shownTo_6 9 rfl fl_Roo_132_4 (wc_law hl) rfl ?_
    refine z_icmp_ge d_Roo_shownTo_9 36 12 (by decide) rfl (fun h1 => ?_) (fun hzz => absurd (by rw [← (hr l hl).1]; exact Int32.le_refl _) hzz)
    refine z_aload_n d_Roo_shownTo_36 rfl 37 rfl ?_
    refine z_get d_Roo_shownTo_37 40 rfl fl_Roo_83_6 wc_3 rfl ?_
    refine z_iload_n d_Roo_shownTo_40 rfl 41 rfl ?_
    refine z_imul d_Roo_shownTo_41 42 rfl ?_
    exact z_ireturn d_Roo_shownTo_42 (rfl) (rfl)
  · intro i hi ih
    have hr2 := (hr l hl).2
    refine z_iload_n d_Roo_shownTo_4 rfl 5 rfl ?_
    refine z_aload_n d_Roo_shownTo_5 rfl 6 rfl ?_
    refine z_get d_Roo_shownTo_6 9 rfl fl_Roo_132_4 (wc_law hl) rfl ?_
    refine z_icmp_ge d_Roo_shownTo_9 36 12 (by decide) rfl (fun hzz => absurd hzz (by rw [(hr l hl).1]; have := (hr l hl).2; exact nI_ge hi (by omega))) (fun h2 => ?_)
    refine z_iload_n d_Roo_shownTo_12 rfl 13 rfl ?_
    refine z_aload_n d_Roo_shownTo_13 rfl 14 rfl ?_
    refine z_get d_Roo_shownTo_14 17 rfl fl_Roo_34_6 wc_3 rfl ?_
    refine z_alenI d_Roo_shownTo_17 18 rfl wc_21 10 (by decide) ?_
    refine z_icmp_ge d_Roo_shownTo_18 36 21 (by decide) rfl (fun hzz => absurd hzz (show ¬ nI 10 ≤ nI i from nI_ge (by omega) (by decide))) (fun h3 => ?_)
    refine z_iload_n d_Roo_shownTo_21 rfl 22 rfl ?_
    refine z_aload_n d_Roo_shownTo_22 rfl 23 rfl ?_
    refine z_get d_Roo_shownTo_23 26 rfl fl_Roo_34_6 wc_3 rfl ?_
    refine z_iload_n d_Roo_shownTo_26 rfl 27 rfl ?_
    refine z_iaload d_Roo_shownTo_27 (i) 28 rfl wc_21 (rfl) (by omega) (by decide) ?_
    refine z_iadd d_Roo_shownTo_28 29 rfl ?_
    refine z_istore_n d_Roo_shownTo_29 30 rfl (by decide) rfl ?_
    refine z_iinc d_Roo_shownTo_30 1 (by decide) 33 rfl rfl (by decide) rfl ?_
    refine z_goto d_Roo_shownTo_33 4 (by decide) ?_
    exact z_L _ (by simp [List.set, nI_succ, sm]) ih
set_option maxHeartbeats 400000 in
theorem r_Lir_should {tk : Int32} {tp bt crf nt : Nat → Int32} {T PF PS : Nat → Option Nat} {C : Nat → Nat → Int32} {rc g pp bn sc : Nat → Int32} {b : zR} {u : zU} {tl : List zC} (hr : RGc rc) (l : Int32) : Ret 6 0 0 m_Lir_should [.ref 0, .int l] (wld (tk, tp, bt, (T, C, rc, PF, PS, g, pp, bn, sc), b, crf, nt) u tl) (some (.int ((if inR l 6 = true then sc 2 * sm pp (ix (rc (ix l))) else -1)))) (wld (tk, tp, bt, (T, C, rc, PF, PS, g, pp, bn, sc), b, (if inR l 6 = true then crf else rfu crf 1), nt) u tl) := by
  refine Ret.of (n := 1) (by decide) (rfl) rfl (fun X => ?_)
  refine z_aload_n d_Lir_should_0 rfl 1 rfl ?_
  refine z_get d_Lir_should_1 4 rfl fl_Lir_19_10 wc_0 rfl ?_
  refine z_iload_n d_Lir_should_4 rfl 5 rfl ?_
  by_cases hv1 : inR l 6 = true
  · obtain ⟨i2, hi2, rfl⟩ := inR_yes (n := 6) hv1 rfl (by decide)
    have hci2 : (nI i2).toNatClampNeg = i2 := nI_clamp (by omega)
    refine z_invv d_Lir_should_5 8 rfl hm_Roo_lawAt lk_Lir_104 im_Roo_lawAt sl_Roo_Roo_lawAt rfl wc_3 (r_Roo_lawAt_s i2 hi2) rfl rfl (by decide) rfl rfl (Nat.le_of_ble_eq_true rfl) ?_
    refine z_astore_n d_Lir_should_8 9 rfl (by decide) rfl ?_
    refine z_aload_n d_Lir_should_9 rfl 10 rfl ?_
    refine z_ifnonnull d_Lir_should_10 21 (by decide) ?_
    refine z_aload_n d_Lir_should_21 rfl 22 rfl ?_
    refine z_get d_Lir_should_22 25 rfl fl_Lir_19_10 wc_0 rfl ?_
    refine z_aload_n d_Lir_should_25 rfl 26 rfl ?_
    refine z_invv d_Lir_should_26 29 rfl hm_Roo_shownTo lk_Lir_222 im_Roo_shownTo sl_Roo_Roo_shownTo rfl wc_3 (r_Roo_shownTo hr _ hi2) rfl rfl (by decide) rfl rfl (Nat.le_of_ble_eq_true rfl) ?_
    exact z_ireturn d_Lir_should_29 (by simp_all [zb_eq, zb_ne, ← Int32.not_le]) (by simp_all [zb_eq, zb_ne, ← Int32.not_le])
  · have hv1 : inR l 6 = false := by simpa using hv1
    refine z_invv d_Lir_should_5 8 rfl hm_Roo_lawAt lk_Lir_104 im_Roo_lawAt sl_Roo_Roo_lawAt rfl wc_3 (r_Roo_lawAt_n _ hv1) rfl rfl (by decide) rfl rfl (Nat.le_of_ble_eq_true rfl) ?_
    refine z_astore_nN d_Lir_should_8 9 rfl (by decide) rfl ?_
    refine z_aload_nN d_Lir_should_9 rfl 10 rfl ?_
    refine z_ifnonnullN d_Lir_should_10 13 rfl ?_
    refine z_aload_n d_Lir_should_13 rfl 14 rfl ?_
    refine z_iconst d_Lir_should_14 (-1) (by decide) 15 rfl ?_
    refine z_invv d_Lir_should_15 18 rfl hm_Lir_refuse lk_Lir_37 im_Lir_refuse sl_Lir_Lir_refuse rfl wc_0 (r_Lir_refuse (-1) 1 (by decide) (by decide)) rfl rfl (by decide) rfl rfl (Nat.le_of_ble_eq_true rfl) ?_
    refine z_goto d_Lir_should_18 29 (by decide) ?_
    exact z_ireturn d_Lir_should_29 (by simp_all [zb_eq, zb_ne, ← Int32.not_le]) (by simp_all [zb_eq, zb_ne, ← Int32.not_le])
set_option maxHeartbeats 400000 in
theorem r_Lir_beyond {tk : Int32} {tp bt crf nt : Nat → Int32} {T PF PS : Nat → Option Nat} {C : Nat → Nat → Int32} {rc g pp bn sc : Nat → Int32} {b : zR} {u : zU} {tl : List zC} {s : Nat → Int32} {n : Nat} (hn : sc 0 = nI n) (hn30 : n ≤ 30) (hTT : TT tl T s n) (hr : RGc rc) (l m : Int32) : Ret 6 0 0 m_Lir_beyond [.ref 0, .int l, .int m] (wld (tk, tp, bt, (T, C, rc, PF, PS, g, pp, bn, sc), b, crf, nt) u tl) (some (.int ((if inR l 6 = true then (if m < 1 then 1000000004 else (if 999 < m then 1000000006 else sm (fun i => if bk C g (sc 3) s i (ix l) = 0 then 1 else 0) n * m - sc 2 * sm pp (ix (rc (ix l))))) else 1000000001)))) (wld (tk, tp, bt, (T, C, rc, PF, PS, g, pp, bn, sc), b, (if inR l 6 = true then (if m < 1 then rfu crf 4 else (if 999 < m then rfu crf 6 else crf)) else rfu crf 1), nt) u tl) := by
  refine Ret.of (n := 2) (by decide) (rfl) rfl (fun X => ?_)
  refine z_aload_n d_Lir_beyond_0 rfl 1 rfl ?_
  refine z_get d_Lir_beyond_1 4 rfl fl_Lir_19_10 wc_0 rfl ?_
  refine z_iload_n d_Lir_beyond_4 rfl 5 rfl ?_
  by_cases hv1 : inR l 6 = true
  · obtain ⟨i2, hi2, rfl⟩ := inR_yes (n := 6) hv1 rfl (by decide)
    have hci2 : (nI i2).toNatClampNeg = i2 := nI_clamp (by omega)
    refine z_invv d_Lir_beyond_5 8 rfl hm_Roo_lawAt lk_Lir_104 im_Roo_lawAt sl_Roo_Roo_lawAt rfl wc_3 (r_Roo_lawAt_s i2 hi2) rfl rfl (by decide) rfl rfl (Nat.le_of_ble_eq_true rfl) ?_
    refine z_astore_n d_Lir_beyond_8 9 rfl (by decide) rfl ?_
    refine z_aload_n d_Lir_beyond_9 rfl 10 rfl ?_
    refine z_ifnonnull d_Lir_beyond_10 19 (by decide) ?_
    refine z_iload_n d_Lir_beyond_19 rfl 20 rfl ?_
    refine z_iconst d_Lir_beyond_20 1 (by decide) 21 rfl ?_
    refine z_sipush d_Lir_beyond_21 999 (by decide) 24 rfl ?_
    rcases wi_cases (m) (1) (999) with hw | ⟨hw, hv⟩ | ⟨hw, hv⟩
    · refine z_invs d_Lir_beyond_24 27 rfl hm_Lir_outside lk_Lir_108 st_Lir_outside (r_Lir_outside_1 _ _ _ hw) rfl rfl (by decide) rfl rfl (Nat.le_of_ble_eq_true rfl) ?_
      refine z_istore d_Lir_beyond_27 29 rfl (by decide) rfl ?_
      refine z_iload d_Lir_beyond_29 rfl 31 rfl ?_
      refine z_if_eq d_Lir_beyond_31 41 34 (by decide) rfl (fun hzz => absurd hzz (by decide)) (fun h3 => ?_)
      refine z_aload_n d_Lir_beyond_34 rfl 35 rfl ?_
      refine z_iload d_Lir_beyond_35 rfl 37 rfl ?_
      refine z_invv d_Lir_beyond_37 40 rfl hm_Lir_refuseAsTold lk_Lir_139 im_Lir_refuseAsTold sl_Lir_Lir_refuseAsTold rfl wc_0 (r_Lir_refuseAsTold (-4) 4 (by decide) (by decide)) rfl rfl (by decide) rfl rfl (Nat.le_of_ble_eq_true rfl) ?_
      exact z_ireturn d_Lir_beyond_40 (by simp_all [zb_eq, zb_ne, ← Int32.not_le]) (by simp_all [zb_eq, zb_ne, ← Int32.not_le])
    · refine z_invs d_Lir_beyond_24 27 rfl hm_Lir_outside lk_Lir_108 st_Lir_outside (r_Lir_outside_2 _ _ _ hw hv) rfl rfl (by decide) rfl rfl (Nat.le_of_ble_eq_true rfl) ?_
      refine z_istore d_Lir_beyond_27 29 rfl (by decide) rfl ?_
      refine z_iload d_Lir_beyond_29 rfl 31 rfl ?_
      refine z_if_eq d_Lir_beyond_31 41 34 (by decide) rfl (fun hzz => absurd hzz (by decide)) (fun h4 => ?_)
      refine z_aload_n d_Lir_beyond_34 rfl 35 rfl ?_
      refine z_iload d_Lir_beyond_35 rfl 37 rfl ?_
      refine z_invv d_Lir_beyond_37 40 rfl hm_Lir_refuseAsTold lk_Lir_139 im_Lir_refuseAsTold sl_Lir_Lir_refuseAsTold rfl wc_0 (r_Lir_refuseAsTold (-6) 6 (by decide) (by decide)) rfl rfl (by decide) rfl rfl (Nat.le_of_ble_eq_true rfl) ?_
      exact z_ireturn d_Lir_beyond_40 (by simp_all [zb_eq, zb_ne, ← Int32.not_le]) (by simp_all [zb_eq, zb_ne, ← Int32.not_le])
    · refine z_invs d_Lir_beyond_24 27 rfl hm_Lir_outside lk_Lir_108 st_Lir_outside (r_Lir_outside_3 _ _ _ hw hv) rfl rfl (by decide) rfl rfl (Nat.le_of_ble_eq_true rfl) ?_
      refine z_istore d_Lir_beyond_27 29 rfl (by decide) rfl ?_
      refine z_iload d_Lir_beyond_29 rfl 31 rfl ?_
      refine z_if_eq d_Lir_beyond_31 41 34 (by decide) rfl (fun h5 => ?_) (fun hzz => absurd (by decide) hzz)
      refine z_aload_n d_Lir_beyond_41 rfl 42 rfl ?_
      refine z_get d_Lir_beyond_42 45 rfl fl_Lir_19_10 wc_0 rfl ?_
      refine z_aload_n d_Lir_beyond_45 rfl 46 rfl ?_
      refine z_invv d_Lir_beyond_46 49 rfl hm_Roo_howManyFit lk_Lir_226 im_Roo_howManyFit sl_Roo_Roo_howManyFit rfl wc_3 (r_Roo_howManyFit hn hn30 hTT _ hi2) rfl rfl (by decide) rfl rfl (Nat.le_of_ble_eq_true rfl) ?_
      refine z_iload_n d_Lir_beyond_49 rfl 50 rfl ?_
      refine z_imul d_Lir_beyond_50 51 rfl ?_
      refine z_aload_n d_Lir_beyond_51 rfl 52 rfl ?_
      refine z_get d_Lir_beyond_52 55 rfl fl_Lir_19_10 wc_0 rfl ?_
      refine z_aload_n d_Lir_beyond_55 rfl 56 rfl ?_
      refine z_invv d_Lir_beyond_56 59 rfl hm_Roo_shownTo lk_Lir_222 im_Roo_shownTo sl_Roo_Roo_shownTo rfl wc_3 (r_Roo_shownTo hr _ hi2) rfl rfl (by decide) rfl rfl (Nat.le_of_ble_eq_true rfl) ?_
      refine z_isub d_Lir_beyond_59 60 rfl ?_
      exact z_ireturn d_Lir_beyond_60 (by simp_all [zb_eq, zb_ne, ← Int32.not_le]) (by simp_all [zb_eq, zb_ne, ← Int32.not_le])
  · have hv1 : inR l 6 = false := by simpa using hv1
    refine z_invv d_Lir_beyond_5 8 rfl hm_Roo_lawAt lk_Lir_104 im_Roo_lawAt sl_Roo_Roo_lawAt rfl wc_3 (r_Roo_lawAt_n _ hv1) rfl rfl (by decide) rfl rfl (Nat.le_of_ble_eq_true rfl) ?_
    refine z_astore_nN d_Lir_beyond_8 9 rfl (by decide) rfl ?_
    refine z_aload_nN d_Lir_beyond_9 rfl 10 rfl ?_
    refine z_ifnonnullN d_Lir_beyond_10 13 rfl ?_
    refine z_aload_n d_Lir_beyond_13 rfl 14 rfl ?_
    refine z_iconst d_Lir_beyond_14 (-1) (by decide) 15 rfl ?_
    refine z_invv d_Lir_beyond_15 18 rfl hm_Lir_refuseAsTold lk_Lir_139 im_Lir_refuseAsTold sl_Lir_Lir_refuseAsTold rfl wc_0 (r_Lir_refuseAsTold (-1) 1 (by decide) (by decide)) rfl rfl (by decide) rfl rfl (Nat.le_of_ble_eq_true rfl) ?_
    exact z_ireturn d_Lir_beyond_18 (by simp_all [zb_eq, zb_ne, ← Int32.not_le]) (by simp_all [zb_eq, zb_ne, ← Int32.not_le])
set_option maxHeartbeats 400000 in
theorem r_Ben_tell {tk : Int32} {tp bt crf nt : Nat → Int32} {T PF PS : Nat → Option Nat} {C : Nat → Nat → Int32} {rc g pp bn sc : Nat → Int32} {b : zR} {u : zU} {tl : List zC} (z e c m : Int32) : Ret 0 0 0 m_Ben_tell [.ref 22, .int z, .int e, .int c, .int m] (wld (tk, tp, bt, (T, C, rc, PF, PS, g, pp, bn, sc), b, crf, nt) u tl) (none) (wld (tk, tp, bt, (T, C, rc, PF, PS, g, pp, upd (upd (upd (upd bn 0 z) 1 e) 2 c) 3 m, sc), b, crf, nt) u tl) := by
  refine Ret.of (n := 0) (by decide) (trivial) rfl (fun X => ?_)
  refine z_aload_n d_Ben_tell_0 rfl 1 rfl ?_
  refine z_iload_n d_Ben_tell_1 rfl 2 rfl ?_
  refine z_putI d_Ben_tell_2 5 rfl fp_Ben_9_0 (Or.inl rfl) wc_22 (by simp) ?_
  refine z_hp wp_22_0 ?_
  refine z_aload_n d_Ben_tell_5 rfl 6 rfl ?_
  refine z_iload_n d_Ben_tell_6 rfl 7 rfl ?_
  refine z_putI d_Ben_tell_7 10 rfl fp_Ben_15_0 (Or.inl rfl) wc_22 (by simp) ?_
  refine z_hp wp_22_1 ?_
  refine z_aload_n d_Ben_tell_10 rfl 11 rfl ?_
  refine z_iload_n d_Ben_tell_11 rfl 12 rfl ?_
  refine z_putI d_Ben_tell_12 15 rfl fp_Ben_18_0 (Or.inl rfl) wc_22 (by simp) ?_
  refine z_hp wp_22_2 ?_
  refine z_aload_n d_Ben_tell_15 rfl 16 rfl ?_
  refine z_iload d_Ben_tell_16 rfl 18 rfl ?_
  refine z_putI d_Ben_tell_18 21 rfl fp_Ben_21_0 (Or.inl rfl) wc_22 (by simp) ?_
  refine z_hp wp_22_3 ?_
  exact z_return d_Ben_tell_21 rfl rfl
theorem lt_of_lt1 {a : Int32} {m : Nat} (h : a < nI (m + 1)) (hm : m < 2 ^ 30 := by decide) : a ≤ nI m := by
  rw [Int32.le_iff_toInt_le, nI_toInt (by omega)]
  have := Int32.lt_iff_toInt_lt.mp h
  rw [nI_toInt (by omega)] at this
  omega
set_option maxHeartbeats 400000 in
theorem r_Lir_bench {tk : Int32} {tp bt crf nt : Nat → Int32} {T PF PS : Nat → Option Nat} {C : Nat → Nat → Int32} {rc g pp bn sc : Nat → Int32} {b : zR} {u : zU} {tl : List zC}  (z e c m : Int32) : Ret 6 0 0 m_Lir_bench [.ref 0, .int z, .int e, .int c, .int m] (wld (tk, tp, bt, (T, C, rc, PF, PS, g, pp, bn, sc), b, crf, nt) u tl) (some (.int ((if inR c 8 = true then (if inR m 256 = true then (if z < 0 then -4 else (if e < 0 then -4 else (if 999 < z then -6 else (if 999 < e then -6 else 1)))) else -1) else -1)))) (wld (tk, tp, bt, (T, C, rc, PF, PS, g, pp, (if inR c 8 = true then (if inR m 256 = true then (if z < 0 then bn else (if e < 0 then bn else (if 999 < z then bn else (if 999 < e then bn else upd (upd (upd (upd bn 0 z) 1 e) 2 c) 3 m)))) else bn) else bn), sc), b, (if inR c 8 = true then (if inR m 256 = true then (if z < 0 then rfu crf 4 else (if e < 0 then rfu crf 4 else (if 999 < z then rfu crf 6 else (if 999 < e then rfu crf 6 else crf)))) else rfu crf 1) else rfu crf 1), nt) u tl) := by
  refine Ret.of (n := 0) (by decide) (rfl) rfl (fun X => ?_)
  refine z_iload_n d_Lir_bench_0 rfl 1 rfl ?_
  refine z_if_lt d_Lir_bench_1 23 4 (by decide) rfl (fun h1 => ?_) (fun h1 => ?_)
  · have hr1 : inR c 8 = false := decide_eq_false (fun q => absurd q.1 (Int32.not_le.mpr h1))
    refine z_aload_n d_Lir_bench_23 rfl 24 rfl ?_
    refine z_iconst d_Lir_bench_24 (-1) (by decide) 25 rfl ?_
    refine z_invv d_Lir_bench_25 28 rfl hm_Lir_refuse lk_Lir_37 im_Lir_refuse sl_Lir_Lir_refuse rfl wc_0 (r_Lir_refuse (-1) 1 (by decide) (by decide)) rfl rfl (by decide) rfl rfl (Nat.le_of_ble_eq_true rfl) ?_
    exact z_ireturn d_Lir_bench_28 (by simp_all [zb_eq, zb_ne, ← Int32.not_le]) (by simp_all [zb_eq, zb_ne, ← Int32.not_le])
  · refine z_iload_n d_Lir_bench_4 rfl 5 rfl ?_
    refine z_bipush d_Lir_bench_5 7 (by decide) 7 rfl ?_
    refine z_icmp_gt d_Lir_bench_7 23 10 (by decide) rfl (fun h2 => ?_) (fun h2 => ?_)
    · have hr1 : inR c 8 = false := decide_eq_false (fun q => absurd (lt_of_lt1 q.2) (Int32.not_le.mpr h2))
      refine z_aload_n d_Lir_bench_23 rfl 24 rfl ?_
      refine z_iconst d_Lir_bench_24 (-1) (by decide) 25 rfl ?_
      refine z_invv d_Lir_bench_25 28 rfl hm_Lir_refuse lk_Lir_37 im_Lir_refuse sl_Lir_Lir_refuse rfl wc_0 (r_Lir_refuse (-1) 1 (by decide) (by decide)) rfl rfl (by decide) rfl rfl (Nat.le_of_ble_eq_true rfl) ?_
      exact z_ireturn d_Lir_bench_28 (by simp_all [zb_eq, zb_ne, ← Int32.not_le]) (by simp_all [zb_eq, zb_ne, ← Int32.not_le])
    · have hr1 : inR c 8 = true := decide_eq_true ⟨Int32.not_lt.mp h1, lt_of_le1 (m := 7) (Int32.not_lt.mp h2)⟩
      refine z_iload d_Lir_bench_10 rfl 12 rfl ?_
      refine z_if_lt d_Lir_bench_12 23 15 (by decide) rfl (fun h3 => ?_) (fun h3 => ?_)
      · have hr2 : inR m 256 = false := decide_eq_false (fun q => absurd q.1 (Int32.not_le.mpr h3))
        refine z_aload_n d_Lir_bench_23 rfl 24 rfl ?_
        refine z_iconst d_Lir_bench_24 (-1) (by decide) 25 rfl ?_
        refine z_invv d_Lir_bench_25 28 rfl hm_Lir_refuse lk_Lir_37 im_Lir_refuse sl_Lir_Lir_refuse rfl wc_0 (r_Lir_refuse (-1) 1 (by decide) (by decide)) rfl rfl (by decide) rfl rfl (Nat.le_of_ble_eq_true rfl) ?_
        exact z_ireturn d_Lir_bench_28 (by simp_all [zb_eq, zb_ne, ← Int32.not_le]) (by simp_all [zb_eq, zb_ne, ← Int32.not_le])
      · refine z_iload d_Lir_bench_15 rfl 17 rfl ?_
        refine z_sipush d_Lir_bench_17 255 (by decide) 20 rfl ?_
        refine z_icmp_le d_Lir_bench_20 29 23 (by decide) rfl (fun h4 => ?_) (fun h4 => ?_)
        · have hr2 : inR m 256 = true := decide_eq_true ⟨Int32.not_lt.mp h3, lt_of_le1 (m := 255) h4⟩
          refine z_iload_n d_Lir_bench_29 rfl 30 rfl ?_
          refine z_if_lt d_Lir_bench_30 37 33 (by decide) rfl (fun h5 => ?_) (fun h5 => ?_)
          · refine z_aload_n d_Lir_bench_37 rfl 38 rfl ?_
            refine z_bipush d_Lir_bench_38 (-4) (by decide) 40 rfl ?_
            refine z_invv d_Lir_bench_40 43 rfl hm_Lir_refuse lk_Lir_37 im_Lir_refuse sl_Lir_Lir_refuse rfl wc_0 (r_Lir_refuse (-4) 4 (by decide) (by decide)) rfl rfl (by decide) rfl rfl (Nat.le_of_ble_eq_true rfl) ?_
            exact z_ireturn d_Lir_bench_43 (by simp_all [zb_eq, zb_ne, ← Int32.not_le]) (by simp_all [zb_eq, zb_ne, ← Int32.not_le])
          · refine z_iload_n d_Lir_bench_33 rfl 34 rfl ?_
            refine z_if_ge d_Lir_bench_34 44 37 (by decide) rfl (fun h6 => ?_) (fun h6 => ?_)
            · refine z_iload_n d_Lir_bench_44 rfl 45 rfl ?_
              refine z_sipush d_Lir_bench_45 999 (by decide) 48 rfl ?_
              refine z_icmp_gt d_Lir_bench_48 58 51 (by decide) rfl (fun h7 => ?_) (fun h7 => ?_)
              · refine z_aload_n d_Lir_bench_58 rfl 59 rfl ?_
                refine z_bipush d_Lir_bench_59 (-6) (by decide) 61 rfl ?_
                refine z_invv d_Lir_bench_61 64 rfl hm_Lir_refuse lk_Lir_37 im_Lir_refuse sl_Lir_Lir_refuse rfl wc_0 (r_Lir_refuse (-6) 6 (by decide) (by decide)) rfl rfl (by decide) rfl rfl (Nat.le_of_ble_eq_true rfl) ?_
                exact z_ireturn d_Lir_bench_64 (by simp_all [zb_eq, zb_ne, ← Int32.not_le]) (by simp_all [zb_eq, zb_ne, ← Int32.not_le])
              · refine z_iload_n d_Lir_bench_51 rfl 52 rfl ?_
                refine z_sipush d_Lir_bench_52 999 (by decide) 55 rfl ?_
                refine z_icmp_le d_Lir_bench_55 65 58 (by decide) rfl (fun h8 => ?_) (fun h8 => ?_)
                · refine z_aload_n d_Lir_bench_65 rfl 66 rfl ?_
                  refine z_get d_Lir_bench_66 69 rfl fl_Lir_19_10 wc_0 rfl ?_
                  refine z_get d_Lir_bench_69 72 rfl fl_Lir_235_6 wc_3 rfl ?_
                  refine z_iload_n d_Lir_bench_72 rfl 73 rfl ?_
                  refine z_iload_n d_Lir_bench_73 rfl 74 rfl ?_
                  refine z_iload_n d_Lir_bench_74 rfl 75 rfl ?_
                  refine z_iload d_Lir_bench_75 rfl 77 rfl ?_
                  refine z_invvv d_Lir_bench_77 80 rfl hm_Ben_tell lk_Lir_239 im_Ben_tell sl_Ben_Ben_tell rfl wc_22 (r_Ben_tell _ _ _ _) rfl rfl (by decide) rfl rfl (Nat.le_of_ble_eq_true rfl) ?_
                  refine z_iconst d_Lir_bench_80 1 (by decide) 81 rfl ?_
                  exact z_ireturn d_Lir_bench_81 (by simp_all [zb_eq, zb_ne, ← Int32.not_le]) (by simp_all [zb_eq, zb_ne, ← Int32.not_le])
                · refine z_aload_n d_Lir_bench_58 rfl 59 rfl ?_
                  refine z_bipush d_Lir_bench_59 (-6) (by decide) 61 rfl ?_
                  refine z_invv d_Lir_bench_61 64 rfl hm_Lir_refuse lk_Lir_37 im_Lir_refuse sl_Lir_Lir_refuse rfl wc_0 (r_Lir_refuse (-6) 6 (by decide) (by decide)) rfl rfl (by decide) rfl rfl (Nat.le_of_ble_eq_true rfl) ?_
                  exact z_ireturn d_Lir_bench_64 (by simp_all [zb_eq, zb_ne, ← Int32.not_le]) (by simp_all [zb_eq, zb_ne, ← Int32.not_le])
            · refine z_aload_n d_Lir_bench_37 rfl 38 rfl ?_
              refine z_bipush d_Lir_bench_38 (-4) (by decide) 40 rfl ?_
              refine z_invv d_Lir_bench_40 43 rfl hm_Lir_refuse lk_Lir_37 im_Lir_refuse sl_Lir_Lir_refuse rfl wc_0 (r_Lir_refuse (-4) 4 (by decide) (by decide)) rfl rfl (by decide) rfl rfl (Nat.le_of_ble_eq_true rfl) ?_
              exact z_ireturn d_Lir_bench_43 (by simp_all [zb_eq, zb_ne, ← Int32.not_le]) (by simp_all [zb_eq, zb_ne, ← Int32.not_le])
        · have hr2 : inR m 256 = false := decide_eq_false (fun q => h4 (lt_of_lt1 q.2))
          refine z_aload_n d_Lir_bench_23 rfl 24 rfl ?_
          refine z_iconst d_Lir_bench_24 (-1) (by decide) 25 rfl ?_
          refine z_invv d_Lir_bench_25 28 rfl hm_Lir_refuse lk_Lir_37 im_Lir_refuse sl_Lir_Lir_refuse rfl wc_0 (r_Lir_refuse (-1) 1 (by decide) (by decide)) rfl rfl (by decide) rfl rfl (Nat.le_of_ble_eq_true rfl) ?_
          exact z_ireturn d_Lir_bench_28 (by simp_all [zb_eq, zb_ne, ← Int32.not_le]) (by simp_all [zb_eq, zb_ne, ← Int32.not_le])
def llC (bn v : Nat → Int32) : Int32 := ((((v 3 &&& (bn 3 ^^^ -1)) <<< (3 &&& 31)) ||| (if v 0 ≤ bn 0 then 0 else 1)) ||| (if v 1 ≤ bn 1 then 0 else 2)) ||| (if v 2 = -9 then 0 else if v 2 = bn 2 then 0 else 4)
set_option maxHeartbeats 400000 in
theorem r_Ben_linesLacking {tk : Int32} {tp bt crf nt : Nat → Int32} {T PF PS : Nat → Option Nat} {C : Nat → Nat → Int32} {rc g pp bn sc : Nat → Int32} {b : zR} {u : zU} {tl : List zC} (v : Nat → Int32) (P : Nat) (hP : (wld (tk, tp, bt, (T, C, rc, PF, PS, g, pp, bn, sc), b, crf, nt) u tl)[P]? = some (tcell v)) : Ret 0 0 0 m_Ben_linesLacking [.ref 22, .ref P] (wld (tk, tp, bt, (T, C, rc, PF, PS, g, pp, bn, sc), b, crf, nt) u tl) (some (.int (llC bn v))) (wld (tk, tp, bt, (T, C, rc, PF, PS, g, pp, bn, sc), b, crf, nt) u tl) := by
  refine Ret.of (n := 1) (by decide) (rfl) rfl (fun X => ?_)
  refine z_aload_n d_Ben_linesLacking_0 rfl 1 rfl ?_
  refine z_get d_Ben_linesLacking_1 4 rfl (flT_Ben_24 (kci_mem _)) hP rfl ?_
  refine z_aload_n d_Ben_linesLacking_4 rfl 5 rfl ?_
  refine z_get d_Ben_linesLacking_5 8 rfl fl_Ben_21_0 wc_22 rfl ?_
  refine z_iconst d_Ben_linesLacking_8 (-1) (by decide) 9 rfl ?_
  refine z_ixor d_Ben_linesLacking_9 10 rfl ?_
  refine z_iand d_Ben_linesLacking_10 11 rfl ?_
  refine z_iconst d_Ben_linesLacking_11 3 (by decide) 12 rfl ?_
  refine z_ishl d_Ben_linesLacking_12 13 rfl ?_
  refine z_istore_n d_Ben_linesLacking_13 14 rfl (by decide) rfl ?_
  refine z_iload_n d_Ben_linesLacking_14 rfl 15 rfl ?_
  refine z_aload_n d_Ben_linesLacking_15 rfl 16 rfl ?_
  refine z_get d_Ben_linesLacking_16 19 rfl fl_Ben_9_0 wc_22 rfl ?_
  refine z_aload_n d_Ben_linesLacking_19 rfl 20 rfl ?_
  refine z_get d_Ben_linesLacking_20 23 rfl (flT_Ben_27 (kci_mem _)) hP rfl ?_
  refine z_icmp_ge d_Ben_linesLacking_23 30 26 (by decide) rfl (fun h1 => ?_) (fun h1 => ?_)
  · refine z_iconst d_Ben_linesLacking_30 0 (by decide) 31 rfl ?_
    refine z_ior d_Ben_linesLacking_31 32 rfl ?_
    refine z_istore_n d_Ben_linesLacking_32 33 rfl (by decide) rfl ?_
    refine z_iload_n d_Ben_linesLacking_33 rfl 34 rfl ?_
    refine z_aload_n d_Ben_linesLacking_34 rfl 35 rfl ?_
    refine z_get d_Ben_linesLacking_35 38 rfl fl_Ben_15_0 wc_22 rfl ?_
    refine z_aload_n d_Ben_linesLacking_38 rfl 39 rfl ?_
    refine z_get d_Ben_linesLacking_39 42 rfl (flT_Ben_28 (kci_mem _)) hP rfl ?_
    refine z_icmp_ge d_Ben_linesLacking_42 49 45 (by decide) rfl (fun h2 => ?_) (fun h2 => ?_)
    · refine z_iconst d_Ben_linesLacking_49 0 (by decide) 50 rfl ?_
      refine z_ior d_Ben_linesLacking_50 51 rfl ?_
      refine z_istore_n d_Ben_linesLacking_51 52 rfl (by decide) rfl ?_
      refine z_iload_n d_Ben_linesLacking_52 rfl 53 rfl ?_
      refine z_aload_n d_Ben_linesLacking_53 rfl 54 rfl ?_
      refine z_get d_Ben_linesLacking_54 57 rfl (flT_Ben_29 (kci_mem _)) hP rfl ?_
      refine z_bipush d_Ben_linesLacking_57 (-9) (by decide) 59 rfl ?_
      refine z_icmp_eq d_Ben_linesLacking_59 77 62 (by decide) rfl (fun h3 => ?_) (fun h3 => ?_)
      · refine z_iconst d_Ben_linesLacking_77 0 (by decide) 78 rfl ?_
        refine z_ior d_Ben_linesLacking_78 79 rfl ?_
        refine z_istore_n d_Ben_linesLacking_79 80 rfl (by decide) rfl ?_
        refine z_iload_n d_Ben_linesLacking_80 rfl 81 rfl ?_
        exact z_ireturn d_Ben_linesLacking_81 (by simp [llC, *]) (rfl)
      · refine z_aload_n d_Ben_linesLacking_62 rfl 63 rfl ?_
        refine z_get d_Ben_linesLacking_63 66 rfl (flT_Ben_29 (kci_mem _)) hP rfl ?_
        refine z_aload_n d_Ben_linesLacking_66 rfl 67 rfl ?_
        refine z_get d_Ben_linesLacking_67 70 rfl fl_Ben_18_0 wc_22 rfl ?_
        refine z_icmp_eq d_Ben_linesLacking_70 77 73 (by decide) rfl (fun h4 => ?_) (fun h4 => ?_)
        · refine z_iconst d_Ben_linesLacking_77 0 (by decide) 78 rfl ?_
          refine z_ior d_Ben_linesLacking_78 79 rfl ?_
          refine z_istore_n d_Ben_linesLacking_79 80 rfl (by decide) rfl ?_
          refine z_iload_n d_Ben_linesLacking_80 rfl 81 rfl ?_
          exact z_ireturn d_Ben_linesLacking_81 (by simp [llC, *]) (rfl)
        · refine z_iconst d_Ben_linesLacking_73 4 (by decide) 74 rfl ?_
          refine z_goto d_Ben_linesLacking_74 78 (by decide) ?_
          refine z_ior d_Ben_linesLacking_78 79 rfl ?_
          refine z_istore_n d_Ben_linesLacking_79 80 rfl (by decide) rfl ?_
          refine z_iload_n d_Ben_linesLacking_80 rfl 81 rfl ?_
          exact z_ireturn d_Ben_linesLacking_81 (by simp [llC, *]) (rfl)
    · refine z_iconst d_Ben_linesLacking_45 2 (by decide) 46 rfl ?_
      refine z_goto d_Ben_linesLacking_46 50 (by decide) ?_
      refine z_ior d_Ben_linesLacking_50 51 rfl ?_
      refine z_istore_n d_Ben_linesLacking_51 52 rfl (by decide) rfl ?_
      refine z_iload_n d_Ben_linesLacking_52 rfl 53 rfl ?_
      refine z_aload_n d_Ben_linesLacking_53 rfl 54 rfl ?_
      refine z_get d_Ben_linesLacking_54 57 rfl (flT_Ben_29 (kci_mem _)) hP rfl ?_
      refine z_bipush d_Ben_linesLacking_57 (-9) (by decide) 59 rfl ?_
      refine z_icmp_eq d_Ben_linesLacking_59 77 62 (by decide) rfl (fun h5 => ?_) (fun h5 => ?_)
      · refine z_iconst d_Ben_linesLacking_77 0 (by decide) 78 rfl ?_
        refine z_ior d_Ben_linesLacking_78 79 rfl ?_
        refine z_istore_n d_Ben_linesLacking_79 80 rfl (by decide) rfl ?_
        refine z_iload_n d_Ben_linesLacking_80 rfl 81 rfl ?_
        exact z_ireturn d_Ben_linesLacking_81 (by simp [llC, *]) (rfl)
      · refine z_aload_n d_Ben_linesLacking_62 rfl 63 rfl ?_
        refine z_get d_Ben_linesLacking_63 66 rfl (flT_Ben_29 (kci_mem _)) hP rfl ?_
        refine z_aload_n d_Ben_linesLacking_66 rfl 67 rfl ?_
        refine z_get d_Ben_linesLacking_67 70 rfl fl_Ben_18_0 wc_22 rfl ?_
        refine z_icmp_eq d_Ben_linesLacking_70 77 73 (by decide) rfl (fun h6 => ?_) (fun h6 => ?_)
        · refine z_iconst d_Ben_linesLacking_77 0 (by decide) 78 rfl ?_
          refine z_ior d_Ben_linesLacking_78 79 rfl ?_
          refine z_istore_n d_Ben_linesLacking_79 80 rfl (by decide) rfl ?_
          refine z_iload_n d_Ben_linesLacking_80 rfl 81 rfl ?_
          exact z_ireturn d_Ben_linesLacking_81 (by simp [llC, *]) (rfl)
        · refine z_iconst d_Ben_linesLacking_73 4 (by decide) 74 rfl ?_
          refine z_goto d_Ben_linesLacking_74 78 (by decide) ?_
          refine z_ior d_Ben_linesLacking_78 79 rfl ?_
          refine z_istore_n d_Ben_linesLacking_79 80 rfl (by decide) rfl ?_
          refine z_iload_n d_Ben_linesLacking_80 rfl 81 rfl ?_
          exact z_ireturn d_Ben_linesLacking_81 (by simp [llC, *]) (rfl)
  · refine z_iconst d_Ben_linesLacking_26 1 (by decide) 27 rfl ?_
    refine z_goto d_Ben_linesLacking_27 31 (by decide) ?_
    refine z_ior d_Ben_linesLacking_31 32 rfl ?_
    refine z_istore_n d_Ben_linesLacking_32 33 rfl (by decide) rfl ?_
    refine z_iload_n d_Ben_linesLacking_33 rfl 34 rfl ?_
    refine z_aload_n d_Ben_linesLacking_34 rfl 35 rfl ?_
    refine z_get d_Ben_linesLacking_35 38 rfl fl_Ben_15_0 wc_22 rfl ?_
    refine z_aload_n d_Ben_linesLacking_38 rfl 39 rfl ?_
    refine z_get d_Ben_linesLacking_39 42 rfl (flT_Ben_28 (kci_mem _)) hP rfl ?_
    refine z_icmp_ge d_Ben_linesLacking_42 49 45 (by decide) rfl (fun h7 => ?_) (fun h7 => ?_)
    · refine z_iconst d_Ben_linesLacking_49 0 (by decide) 50 rfl ?_
      refine z_ior d_Ben_linesLacking_50 51 rfl ?_
      refine z_istore_n d_Ben_linesLacking_51 52 rfl (by decide) rfl ?_
      refine z_iload_n d_Ben_linesLacking_52 rfl 53 rfl ?_
      refine z_aload_n d_Ben_linesLacking_53 rfl 54 rfl ?_
      refine z_get d_Ben_linesLacking_54 57 rfl (flT_Ben_29 (kci_mem _)) hP rfl ?_
      refine z_bipush d_Ben_linesLacking_57 (-9) (by decide) 59 rfl ?_
      refine z_icmp_eq d_Ben_linesLacking_59 77 62 (by decide) rfl (fun h8 => ?_) (fun h8 => ?_)
      · refine z_iconst d_Ben_linesLacking_77 0 (by decide) 78 rfl ?_
        refine z_ior d_Ben_linesLacking_78 79 rfl ?_
        refine z_istore_n d_Ben_linesLacking_79 80 rfl (by decide) rfl ?_
        refine z_iload_n d_Ben_linesLacking_80 rfl 81 rfl ?_
        exact z_ireturn d_Ben_linesLacking_81 (by simp [llC, *]) (rfl)
      · refine z_aload_n d_Ben_linesLacking_62 rfl 63 rfl ?_
        refine z_get d_Ben_linesLacking_63 66 rfl (flT_Ben_29 (kci_mem _)) hP rfl ?_
        refine z_aload_n d_Ben_linesLacking_66 rfl 67 rfl ?_
        refine z_get d_Ben_linesLacking_67 70 rfl fl_Ben_18_0 wc_22 rfl ?_
        refine z_icmp_eq d_Ben_linesLacking_70 77 73 (by decide) rfl (fun h9 => ?_) (fun h9 => ?_)
        · refine z_iconst d_Ben_linesLacking_77 0 (by decide) 78 rfl ?_
          refine z_ior d_Ben_linesLacking_78 79 rfl ?_
          refine z_istore_n d_Ben_linesLacking_79 80 rfl (by decide) rfl ?_
          refine z_iload_n d_Ben_linesLacking_80 rfl 81 rfl ?_
          exact z_ireturn d_Ben_linesLacking_81 (by simp [llC, *]) (rfl)
        · refine z_iconst d_Ben_linesLacking_73 4 (by decide) 74 rfl ?_
          refine z_goto d_Ben_linesLacking_74 78 (by decide) ?_
          refine z_ior d_Ben_linesLacking_78 79 rfl ?_
          refine z_istore_n d_Ben_linesLacking_79 80 rfl (by decide) rfl ?_
          refine z_iload_n d_Ben_linesLacking_80 rfl 81 rfl ?_
          exact z_ireturn d_Ben_linesLacking_81 (by simp [llC, *]) (rfl)
    · refine z_iconst d_Ben_linesLacking_45 2 (by decide) 46 rfl ?_
      refine z_goto d_Ben_linesLacking_46 50 (by decide) ?_
      refine z_ior d_Ben_linesLacking_50 51 rfl ?_
      refine z_istore_n d_Ben_linesLacking_51 52 rfl (by decide) rfl ?_
      refine z_iload_n d_Ben_linesLacking_52 rfl 53 rfl ?_
      refine z_aload_n d_Ben_linesLacking_53 rfl 54 rfl ?_
      refine z_get d_Ben_linesLacking_54 57 rfl (flT_Ben_29 (kci_mem _)) hP rfl ?_
      refine z_bipush d_Ben_linesLacking_57 (-9) (by decide) 59 rfl ?_
      refine z_icmp_eq d_Ben_linesLacking_59 77 62 (by decide) rfl (fun h10 => ?_) (fun h10 => ?_)
      · refine z_iconst d_Ben_linesLacking_77 0 (by decide) 78 rfl ?_
        refine z_ior d_Ben_linesLacking_78 79 rfl ?_
        refine z_istore_n d_Ben_linesLacking_79 80 rfl (by decide) rfl ?_
        refine z_iload_n d_Ben_linesLacking_80 rfl 81 rfl ?_
        exact z_ireturn d_Ben_linesLacking_81 (by simp [llC, *]) (rfl)
      · refine z_aload_n d_Ben_linesLacking_62 rfl 63 rfl ?_
        refine z_get d_Ben_linesLacking_63 66 rfl (flT_Ben_29 (kci_mem _)) hP rfl ?_
        refine z_aload_n d_Ben_linesLacking_66 rfl 67 rfl ?_
        refine z_get d_Ben_linesLacking_67 70 rfl fl_Ben_18_0 wc_22 rfl ?_
        refine z_icmp_eq d_Ben_linesLacking_70 77 73 (by decide) rfl (fun h11 => ?_) (fun h11 => ?_)
        · refine z_iconst d_Ben_linesLacking_77 0 (by decide) 78 rfl ?_
          refine z_ior d_Ben_linesLacking_78 79 rfl ?_
          refine z_istore_n d_Ben_linesLacking_79 80 rfl (by decide) rfl ?_
          refine z_iload_n d_Ben_linesLacking_80 rfl 81 rfl ?_
          exact z_ireturn d_Ben_linesLacking_81 (by simp [llC, *]) (rfl)
        · refine z_iconst d_Ben_linesLacking_73 4 (by decide) 74 rfl ?_
          refine z_goto d_Ben_linesLacking_74 78 (by decide) ?_
          refine z_ior d_Ben_linesLacking_78 79 rfl ?_
          refine z_istore_n d_Ben_linesLacking_79 80 rfl (by decide) rfl ?_
          refine z_iload_n d_Ben_linesLacking_80 rfl 81 rfl ?_
          exact z_ireturn d_Ben_linesLacking_81 (by simp [llC, *]) (rfl)
set_option maxHeartbeats 400000 in
theorem r_Lir_lines {tk : Int32} {tp bt crf nt : Nat → Int32} {T PF PS : Nat → Option Nat} {C : Nat → Nat → Int32} {rc g pp bn sc : Nat → Int32} {b : zR} {u : zU} {tl : List zC} {s : Nat → Int32} {n : Nat} (hn : sc 0 = nI n) (hn30 : n ≤ 30) (hTT : TT tl T s n) (t : Int32) : Ret 6 0 0 m_Lir_lines [.ref 0, .int t] (wld (tk, tp, bt, (T, C, rc, PF, PS, g, pp, bn, sc), b, crf, nt) u tl) (some (.int ((if inR t (sc 0) = true then 11 - bcI (llC bn (fun k => s (6 + 6 * ix t + k))) else -1)))) (wld (tk, tp, bt, (T, C, rc, PF, PS, g, pp, bn, sc), b, (if inR t (sc 0) = true then crf else rfu crf 1), nt) u tl) := by
  refine Ret.of (n := 1) (by decide) (rfl) rfl (fun X => ?_)
  refine z_aload_n d_Lir_lines_0 rfl 1 rfl ?_
  refine z_get d_Lir_lines_1 4 rfl fl_Lir_19_10 wc_0 rfl ?_
  refine z_iload_n d_Lir_lines_4 rfl 5 rfl ?_
  by_cases hv1 : inR t (sc 0) = true
  · obtain ⟨i2, hi2, rfl⟩ := inR_yes hv1 hn (by omega)
    have hci2 : (nI i2).toNatClampNeg = i2 := nI_clamp (by omega)
    obtain ⟨j3, hTj3, hjj3⟩ := hTT.1 i2 hi2
    have hPj3 : (wld (tk, tp, bt, (T, C, rc, PF, PS, g, pp, bn, sc), b, crf, nt) u tl)[51 + j3]? = some (tcell (fun k => s (6 + 6 * i2 + k))) := (wl_tl j3).trans hjj3
    refine z_invv d_Lir_lines_5 8 rfl hm_Roo_tellingAt lk_Lir_74 im_Roo_tellingAt sl_Roo_Roo_tellingAt rfl wc_3 (r_Roo_tellingAt_s hn hn30 i2 _ hi2 hTj3) rfl rfl (by decide) rfl rfl (Nat.le_of_ble_eq_true rfl) ?_
    refine z_astore_n d_Lir_lines_8 9 rfl (by decide) rfl ?_
    refine z_aload_n d_Lir_lines_9 rfl 10 rfl ?_
    refine z_ifnonnull d_Lir_lines_10 19 (by decide) ?_
    refine z_bipush d_Lir_lines_19 11 (by decide) 21 rfl ?_
    refine z_aload_n d_Lir_lines_21 rfl 22 rfl ?_
    refine z_get d_Lir_lines_22 25 rfl fl_Lir_19_10 wc_0 rfl ?_
    refine z_get d_Lir_lines_25 28 rfl fl_Lir_235_6 wc_3 rfl ?_
    refine z_aload_n d_Lir_lines_28 rfl 29 rfl ?_
    refine z_invv d_Lir_lines_29 32 rfl hm_Ben_linesLacking lk_Lir_245 im_Ben_linesLacking sl_Ben_Ben_linesLacking rfl wc_22 (r_Ben_linesLacking _ _ hPj3) rfl rfl (by decide) rfl rfl (Nat.le_of_ble_eq_true rfl) ?_
    refine z_invs d_Lir_lines_32 35 rfl hm_Int_bitCount lk_Lir_159 st_Int_bitCount (r_Int_bitCount _) rfl rfl (by decide) rfl rfl (Nat.le_of_ble_eq_true rfl) ?_
    refine z_isub d_Lir_lines_35 36 rfl ?_
    exact z_ireturn d_Lir_lines_36 (by simp_all [zb_eq, zb_ne, ← Int32.not_le]) (by simp_all [zb_eq, zb_ne, ← Int32.not_le])
  · have hv1 : inR t (sc 0) = false := by simpa using hv1
    refine z_invv d_Lir_lines_5 8 rfl hm_Roo_tellingAt lk_Lir_74 im_Roo_tellingAt sl_Roo_Roo_tellingAt rfl wc_3 (r_Roo_tellingAt_n _ hv1) rfl rfl (by decide) rfl rfl (Nat.le_of_ble_eq_true rfl) ?_
    refine z_astore_nN d_Lir_lines_8 9 rfl (by decide) rfl ?_
    refine z_aload_nN d_Lir_lines_9 rfl 10 rfl ?_
    refine z_ifnonnullN d_Lir_lines_10 13 rfl ?_
    refine z_aload_n d_Lir_lines_13 rfl 14 rfl ?_
    refine z_iconst d_Lir_lines_14 (-1) (by decide) 15 rfl ?_
    refine z_invv d_Lir_lines_15 18 rfl hm_Lir_refuse lk_Lir_37 im_Lir_refuse sl_Lir_Lir_refuse rfl wc_0 (r_Lir_refuse (-1) 1 (by decide) (by decide)) rfl rfl (by decide) rfl rfl (Nat.le_of_ble_eq_true rfl) ?_
    exact z_ireturn d_Lir_lines_18 (by simp_all [zb_eq, zb_ne, ← Int32.not_le]) (by simp_all [zb_eq, zb_ne, ← Int32.not_le])
set_option maxHeartbeats 400000 in
theorem r_Lir_misses {tk : Int32} {tp bt crf nt : Nat → Int32} {T PF PS : Nat → Option Nat} {C : Nat → Nat → Int32} {rc g pp bn sc : Nat → Int32} {b : zR} {u : zU} {tl : List zC} {s : Nat → Int32} {n : Nat} (hn : sc 0 = nI n) (hn30 : n ≤ 30) (hTT : TT tl T s n) (t : Int32) : Ret 6 0 0 m_Lir_misses [.ref 0, .int t] (wld (tk, tp, bt, (T, C, rc, PF, PS, g, pp, bn, sc), b, crf, nt) u tl) (some (.int ((if inR t (sc 0) = true then fnd 11 (fun k => mkd (llC bn (fun q => s (6 + 6 * ix t + q))) (nI k)) else -1)))) (wld (tk, tp, bt, (T, C, rc, PF, PS, g, pp, bn, sc), b, (if inR t (sc 0) = true then crf else rfu crf 1), nt) u tl) := by
  refine Ret.of (n := 3) (by decide) (rfl) rfl (fun X => ?_)
  refine z_aload_n d_Lir_misses_0 rfl 1 rfl ?_
  refine z_get d_Lir_misses_1 4 rfl fl_Lir_19_10 wc_0 rfl ?_
  refine z_iload_n d_Lir_misses_4 rfl 5 rfl ?_
  by_cases hv1 : inR t (sc 0) = true
  · obtain ⟨i2, hi2, rfl⟩ := inR_yes hv1 hn (by omega)
    have hci2 : (nI i2).toNatClampNeg = i2 := nI_clamp (by omega)
    obtain ⟨j3, hTj3, hjj3⟩ := hTT.1 i2 hi2
    have hPj3 : (wld (tk, tp, bt, (T, C, rc, PF, PS, g, pp, bn, sc), b, crf, nt) u tl)[51 + j3]? = some (tcell (fun k => s (6 + 6 * i2 + k))) := (wl_tl j3).trans hjj3
    refine z_invv d_Lir_misses_5 8 rfl hm_Roo_tellingAt lk_Lir_74 im_Roo_tellingAt sl_Roo_Roo_tellingAt rfl wc_3 (r_Roo_tellingAt_s hn hn30 i2 _ hi2 hTj3) rfl rfl (by decide) rfl rfl (Nat.le_of_ble_eq_true rfl) ?_
    refine z_astore_n d_Lir_misses_8 9 rfl (by decide) rfl ?_
    refine z_aload_n d_Lir_misses_9 rfl 10 rfl ?_
    refine z_ifnonnull d_Lir_misses_10 19 (by decide) ?_
    refine z_aload_n d_Lir_misses_19 rfl 20 rfl ?_
    refine z_get d_Lir_misses_20 23 rfl fl_Lir_19_10 wc_0 rfl ?_
    refine z_get d_Lir_misses_23 26 rfl fl_Lir_235_6 wc_3 rfl ?_
    refine z_aload_n d_Lir_misses_26 rfl 27 rfl ?_
    refine z_invv d_Lir_misses_27 30 rfl hm_Ben_linesLacking lk_Lir_245 im_Ben_linesLacking sl_Ben_Ben_linesLacking rfl wc_22 (r_Ben_linesLacking _ _ hPj3) rfl rfl (by decide) rfl rfl (Nat.le_of_ble_eq_true rfl) ?_
    refine z_istore_n d_Lir_misses_30 31 rfl (by decide) rfl ?_
    refine z_iconst d_Lir_misses_31 0 (by decide) 32 rfl ?_
    refine z_istore d_Lir_misses_32 34 rfl (by decide) rfl ?_
    refine zloop (fun k => (∀ q, q < k → mkd (llC bn (fun k => s (6 + 6 * i2 + k))) (nI q) = false) → Z X m_Lir_misses 6 0 0 (some (.int ((if inR (nI i2) (sc 0) = true then fnd 11 (fun k => mkd (llC bn (fun q => s (6 + 6 * ix (nI i2) + q))) (nI k)) else -1)))) (wld (tk, tp, bt, (T, C, rc, PF, PS, g, pp, bn, sc), b, (if inR (nI i2) (sc 0) = true then crf else rfu crf 1), nt) u tl) 34 [some (.ref 0), some (.int (nI i2)), some (.ref (51 + j3)), some (.int (llC bn (fun k => s (6 + 6 * i2 + k)))), some (.int (nI k))] [] (wld (tk, tp, bt, (T, C, rc, PF, PS, g, pp, bn, sc), b, crf, nt) u tl)) (11) ?_ ?_ 0 (Nat.zero_le _) (fun q h => absurd h (Nat.not_lt_zero q))
    · intro hinv
      refine z_iload d_Lir_misses_34 rfl 36 rfl ?_
      refine z_bipush d_Lir_misses_36 11 (by decide) 38 rfl ?_
      refine z_icmp_ge d_Lir_misses_38 59 41 (by decide) rfl (fun h4 => ?_) (fun hzz => absurd (by decide) hzz)
      refine z_bipush d_Lir_misses_59 (-9) (by decide) 61 rfl ?_
      exact z_ireturn d_Lir_misses_61 (by rw [if_pos hv1, show ix (nI i2) = i2 from hci2, fnd_none (p := fun k => mkd (llC bn (fun k => s (6 + 6 * i2 + k))) (nI k)) (fun q hq => hinv q hq)]) (by simp_all [zb_eq, zb_ne, ← Int32.not_le])
    · intro k hk ih hinv
      refine z_iload d_Lir_misses_34 rfl 36 rfl ?_
      refine z_bipush d_Lir_misses_36 11 (by decide) 38 rfl ?_
      refine z_icmp_ge d_Lir_misses_38 59 41 (by decide) rfl (fun hzz => absurd hzz (show ¬ nI 11 ≤ nI k from nI_ge hk (by decide))) (fun h5 => ?_)
      refine z_iload_n d_Lir_misses_41 rfl 42 rfl ?_
      refine z_iload d_Lir_misses_42 rfl 44 rfl ?_
      refine z_invs d_Lir_misses_44 47 rfl hm_Lir_hasBit lk_Lir_248 st_Lir_hasBit (r_Lir_hasBit _ _) rfl rfl (by decide) rfl rfl (Nat.le_of_ble_eq_true rfl) ?_
      refine z_if_eq d_Lir_misses_47 53 50 (by decide) rfl (fun h6 => ?_) (fun h6 => ?_)
      · refine z_iinc d_Lir_misses_53 1 (by decide) 56 rfl rfl (by decide) rfl ?_
        refine z_goto d_Lir_misses_56 34 (by decide) ?_
        exact z_L _ (by simp [List.set, nI_succ]) (ih (fun q hq => by
          rcases Nat.lt_or_ge q k with h | h
          · exact hinv q h
          · have : q = k := by omega
            subst this
            exact (zb_eq _).mp (by assumption)))
      · refine z_iload d_Lir_misses_50 rfl 52 rfl ?_
        exact z_ireturn d_Lir_misses_52 (by rw [if_pos hv1, show ix (nI i2) = i2 from hci2, fnd_some (k := k) (p := fun k => mkd (llC bn (fun k => s (6 + 6 * i2 + k))) (nI k)) hk ((zb_ne _).mp (by assumption)) (fun q hq => hinv q hq)]) (by simp_all [zb_eq, zb_ne, ← Int32.not_le])
  · have hv1 : inR t (sc 0) = false := by simpa using hv1
    refine z_invv d_Lir_misses_5 8 rfl hm_Roo_tellingAt lk_Lir_74 im_Roo_tellingAt sl_Roo_Roo_tellingAt rfl wc_3 (r_Roo_tellingAt_n _ hv1) rfl rfl (by decide) rfl rfl (Nat.le_of_ble_eq_true rfl) ?_
    refine z_astore_nN d_Lir_misses_8 9 rfl (by decide) rfl ?_
    refine z_aload_nN d_Lir_misses_9 rfl 10 rfl ?_
    refine z_ifnonnullN d_Lir_misses_10 13 rfl ?_
    refine z_aload_n d_Lir_misses_13 rfl 14 rfl ?_
    refine z_iconst d_Lir_misses_14 (-1) (by decide) 15 rfl ?_
    refine z_invv d_Lir_misses_15 18 rfl hm_Lir_refuse lk_Lir_37 im_Lir_refuse sl_Lir_Lir_refuse rfl wc_0 (r_Lir_refuse (-1) 1 (by decide) (by decide)) rfl rfl (by decide) rfl rfl (Nat.le_of_ble_eq_true rfl) ?_
    exact z_ireturn d_Lir_misses_18 (by simp_all [zb_eq, zb_ne, ← Int32.not_le]) (by simp_all [zb_eq, zb_ne, ← Int32.not_le])
def brC (C : Nat → Nat → Int32) (c : Int32) : Nat → Int32
  | 0 => 0
  | i + 1 => if c &&& (C i 4 ^^^ -1) = 0 then brC C c i else brC C c i ||| 1 <<< (nI i &&& 31)
set_option maxHeartbeats 400000 in
theorem r_Lir_barred {tk : Int32} {tp bt crf nt : Nat → Int32} {T PF PS : Nat → Option Nat} {C : Nat → Nat → Int32} {rc g pp bn sc : Nat → Int32} {b : zR} {u : zU} {tl : List zC}  (c : Int32) : Ret 6 0 0 m_Lir_barred [.ref 0, .int c] (wld (tk, tp, bt, (T, C, rc, PF, PS, g, pp, bn, sc), b, crf, nt) u tl) (some (.int ((if inR c 256 = true then brC C c 6 else -1)))) (wld (tk, tp, bt, (T, C, rc, PF, PS, g, pp, bn, sc), b, (if inR c 256 = true then crf else rfu crf 1), nt) u tl) := by
  refine Ret.of (n := 3) (by decide) (rfl) rfl (fun X => ?_)
  refine z_iload_n d_Lir_barred_0 rfl 1 rfl ?_
  refine z_if_lt d_Lir_barred_1 11 4 (by decide) rfl (fun h1 => ?_) (fun h1 => ?_)
  · have hr1 : inR c 256 = false := decide_eq_false (fun q => absurd q.1 (Int32.not_le.mpr h1))
    refine z_aload_n d_Lir_barred_11 rfl 12 rfl ?_
    refine z_iconst d_Lir_barred_12 (-1) (by decide) 13 rfl ?_
    refine z_invv d_Lir_barred_13 16 rfl hm_Lir_refuse lk_Lir_37 im_Lir_refuse sl_Lir_Lir_refuse rfl wc_0 (r_Lir_refuse (-1) 1 (by decide) (by decide)) rfl rfl (by decide) rfl rfl (Nat.le_of_ble_eq_true rfl) ?_
    exact z_ireturn d_Lir_barred_16 (by simp_all [zb_eq, zb_ne, ← Int32.not_le]) (by simp_all [zb_eq, zb_ne, ← Int32.not_le])
  · refine z_iload_n d_Lir_barred_4 rfl 5 rfl ?_
    refine z_sipush d_Lir_barred_5 255 (by decide) 8 rfl ?_
    refine z_icmp_le d_Lir_barred_8 17 11 (by decide) rfl (fun h2 => ?_) (fun h2 => ?_)
    · have hr1 : inR c 256 = true := decide_eq_true ⟨Int32.not_lt.mp h1, lt_of_le1 (m := 255) h2⟩
      refine z_iconst d_Lir_barred_17 0 (by decide) 18 rfl ?_
      refine z_istore_n d_Lir_barred_18 19 rfl (by decide) rfl ?_
      refine z_iconst d_Lir_barred_19 0 (by decide) 20 rfl ?_
      refine z_istore_n d_Lir_barred_20 21 rfl (by decide) rfl ?_
      refine zloop (fun i => Z X m_Lir_barred 6 0 0 (some (.int ((if inR c 256 = true then brC C c 6 else -1)))) (wld (tk, tp, bt, (T, C, rc, PF, PS, g, pp, bn, sc), b, (if inR c 256 = true then crf else rfu crf 1), nt) u tl) 21 [some (.ref 0), some (.int c), some (.int (brC C c i)), some (.int (nI i)), none] [] (wld (tk, tp, bt, (T, C, rc, PF, PS, g, pp, bn, sc), b, crf, nt) u tl)) (6) ?_ ?_ 0 (Nat.zero_le _)
      · refine z_iload_n d_Lir_barred_21 rfl 22 rfl ?_
        refine z_bipush d_Lir_barred_22 6 (by decide) 24 rfl ?_
        refine z_icmp_ge d_Lir_barred_24 68 27 (by decide) rfl (fun h3 => ?_) (fun hzz => absurd (by decide) hzz)
        refine z_iload_n d_Lir_barred_68 rfl 69 rfl ?_
        exact z_ireturn d_Lir_barred_69 (by rw [if_pos hr1]) (by simp_all [zb_eq, zb_ne, ← Int32.not_le])
      · intro i hi ih
        refine z_iload_n d_Lir_barred_21 rfl 22 rfl ?_
        refine z_bipush d_Lir_barred_22 6 (by decide) 24 rfl ?_
        refine z_icmp_ge d_Lir_barred_24 68 27 (by decide) rfl (fun hzz => absurd hzz (show ¬ nI 6 ≤ nI i from nI_ge hi (by decide))) (fun h4 => ?_)
        refine z_aload_n d_Lir_barred_27 rfl 28 rfl ?_
        refine z_get d_Lir_barred_28 31 rfl fl_Lir_19_10 wc_0 rfl ?_
        refine z_iload_n d_Lir_barred_31 rfl 32 rfl ?_
        refine z_invv d_Lir_barred_32 35 rfl hm_Roo_lawAt lk_Lir_104 im_Roo_lawAt sl_Roo_Roo_lawAt rfl wc_3 (r_Roo_lawAt_s i hi) rfl rfl (by decide) rfl rfl (Nat.le_of_ble_eq_true rfl) ?_
        refine z_astore d_Lir_barred_35 37 rfl (by decide) rfl ?_
        refine z_aload d_Lir_barred_37 rfl 39 rfl ?_
        refine z_ifnull d_Lir_barred_39 42 rfl ?_
        refine z_iload_n d_Lir_barred_42 rfl 43 rfl ?_
        refine z_aload d_Lir_barred_43 rfl 45 rfl ?_
        refine z_get d_Lir_barred_45 48 rfl fl_Lir_112_4 (wc_law hi) rfl ?_
        refine z_iconst d_Lir_barred_48 4 (by decide) 49 rfl ?_
        refine z_iaload d_Lir_barred_49 (4) 50 rfl (wc_cond hi) (rfl) (by omega) (by decide) ?_
        refine z_iconst d_Lir_barred_50 (-1) (by decide) 51 rfl ?_
        refine z_ixor d_Lir_barred_51 52 rfl ?_
        refine z_iand d_Lir_barred_52 53 rfl ?_
        refine z_if_eq d_Lir_barred_53 62 56 (by decide) rfl (fun h5 => ?_) (fun h5 => ?_)
        · have e2 : brC C c (i + 1) = brC C c i := by simp only [brC]; rw [if_pos h5]
          refine z_iinc d_Lir_barred_62 1 (by decide) 65 rfl rfl (by decide) rfl ?_
          refine z_goto d_Lir_barred_65 21 (by decide) ?_
          exact z_Lg _ ih (by rw [e2]; simp [zLw, List.set, nI_succ])
        · have e2 : brC C c (i + 1) = brC C c i ||| 1 <<< (nI i &&& 31) := by simp only [brC]; rw [if_neg h5]
          refine z_iload_n d_Lir_barred_56 rfl 57 rfl ?_
          refine z_iconst d_Lir_barred_57 1 (by decide) 58 rfl ?_
          refine z_iload_n d_Lir_barred_58 rfl 59 rfl ?_
          refine z_ishl d_Lir_barred_59 60 rfl ?_
          refine z_ior d_Lir_barred_60 61 rfl ?_
          refine z_istore_n d_Lir_barred_61 62 rfl (by decide) rfl ?_
          refine z_iinc d_Lir_barred_62 1 (by decide) 65 rfl rfl (by decide) rfl ?_
          refine z_goto d_Lir_barred_65 21 (by decide) ?_
          exact z_Lg _ ih (by rw [e2]; simp [zLw, List.set, nI_succ])
    · have hr1 : inR c 256 = false := decide_eq_false (fun q => h2 (lt_of_lt1 q.2))
      refine z_aload_n d_Lir_barred_11 rfl 12 rfl ?_
      refine z_iconst d_Lir_barred_12 (-1) (by decide) 13 rfl ?_
      refine z_invv d_Lir_barred_13 16 rfl hm_Lir_refuse lk_Lir_37 im_Lir_refuse sl_Lir_Lir_refuse rfl wc_0 (r_Lir_refuse (-1) 1 (by decide) (by decide)) rfl rfl (by decide) rfl rfl (Nat.le_of_ble_eq_true rfl) ?_
      exact z_ireturn d_Lir_barred_16 (by simp_all [zb_eq, zb_ne, ← Int32.not_le]) (by simp_all [zb_eq, zb_ne, ← Int32.not_le])
