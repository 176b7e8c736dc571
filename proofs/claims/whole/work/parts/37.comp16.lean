set_option maxHeartbeats 400000 in
theorem r_Tap_readSize_n {tk : Int32} {bt crf nt : Nat → Int32} {T PF PS : Nat → Option Nat} {C : Nat → Nat → Int32} {rc g pp bn sc : Nat → Int32} {b : zR} {u : zU} {tl : List zC} {p q : Nat} {z e c m y a : Int32} (hp : p ≤ 24) (hq : q ≤ p) (h : ¬ sg bt p q = 115) : Ret 3 0 0 m_Tap_readSize [.ref 1] (wld (tk, tpf p q z e c m y a, bt, (T, C, rc, PF, PS, g, pp, bn, sc), b, crf, nt) u tl) (some (.int 1)) (wld (tk, tpf p q (-9) e c m y a, bt, (T, C, rc, PF, PS, g, pp, bn, sc), b, crf, nt) u tl) := by
  refine Ret.of (n := 0) (by decide) (rfl) rfl (fun X => ?_)
  refine z_aload_n d_Tap_readSize_0 rfl 1 rfl ?_
  refine z_bipush d_Tap_readSize_1 (-9) (by decide) 3 rfl ?_
  refine z_putI d_Tap_readSize_3 6 rfl fp_Tap_84_7 (Or.inl rfl) wt_1 (by simp) ?_
  refine z_hp wpt_3 ?_
  refine z_aload_n d_Tap_readSize_6 rfl 7 rfl ?_
  refine z_bipush d_Tap_readSize_7 115 (by decide) 9 rfl ?_
  refine z_invv d_Tap_readSize_9 12 rfl hm_Tap_passes lk_Tap_87 im_Tap_passes sl_Tap_Tap_passes rfl wt_1 (r_Tap_passes_f hp hq 115 h) rfl rfl (by decide) rfl rfl (Nat.le_of_ble_eq_true rfl) ?_
  refine z_if_ne d_Tap_readSize_12 17 15 (by decide) rfl (fun hzz => absurd (by decide) hzz) (fun h1 => ?_)
  refine z_iconst d_Tap_readSize_15 1 (by decide) 16 rfl ?_
  exact z_ireturn d_Tap_readSize_16 (rfl) (rfl)
set_option maxHeartbeats 400000 in
theorem r_Tap_readSize_f {tk : Int32} {bt crf nt : Nat → Int32} {T PF PS : Nat → Option Nat} {C : Nat → Nat → Int32} {rc g pp bn sc : Nat → Int32} {b : zR} {u : zU} {tl : List zC} {p q : Nat} {z e c m y a : Int32} (hp : p ≤ 24) (hq : q ≤ p) (h : sg bt p q = 115) (hd : ¬ dg bt p (q + 1) = true) : Ret 3 0 0 m_Tap_readSize [.ref 1] (wld (tk, tpf p q z e c m y a, bt, (T, C, rc, PF, PS, g, pp, bn, sc), b, crf, nt) u tl) (some (.int 0)) (wld (tk, tpf p (q + 1) (-9) e c m y a, bt, (T, C, rc, PF, PS, g, pp, bn, sc), b, crf, nt) u tl) := by
  have hq1 : q + 1 ≤ p := sg_lt (mt := bt) (by rw [h]; decide)
  refine Ret.of (n := 0) (by decide) (rfl) rfl (fun X => ?_)
  refine z_aload_n d_Tap_readSize_0 rfl 1 rfl ?_
  refine z_bipush d_Tap_readSize_1 (-9) (by decide) 3 rfl ?_
  refine z_putI d_Tap_readSize_3 6 rfl fp_Tap_84_7 (Or.inl rfl) wt_1 (by simp) ?_
  refine z_hp wpt_3 ?_
  refine z_aload_n d_Tap_readSize_6 rfl 7 rfl ?_
  refine z_bipush d_Tap_readSize_7 115 (by decide) 9 rfl ?_
  refine z_invv d_Tap_readSize_9 12 rfl hm_Tap_passes lk_Tap_87 im_Tap_passes sl_Tap_Tap_passes rfl wt_1 (r_Tap_passes_t hp hq 115 h) rfl rfl (by decide) rfl rfl (Nat.le_of_ble_eq_true rfl) ?_
  refine z_if_ne d_Tap_readSize_12 17 15 (by decide) rfl (fun h1 => ?_) (fun hzz => absurd hzz (by decide))
  refine z_aload_n d_Tap_readSize_17 rfl 18 rfl ?_
  refine z_aload_n d_Tap_readSize_18 rfl 19 rfl ?_
  refine z_iconst d_Tap_readSize_19 3 (by decide) 20 rfl ?_
  refine z_invv d_Tap_readSize_20 23 rfl hm_Tap_readNumber lk_Tap_91 im_Tap_readNumber sl_Tap_Tap_readNumber rfl wt_1 (r_Tap_readNumber_f hp hq1 3 hd) rfl rfl (by decide) rfl rfl (Nat.le_of_ble_eq_true rfl) ?_
  refine z_putI d_Tap_readSize_23 26 rfl fp_Tap_84_7 (Or.inl rfl) wt_1 (by simp) ?_
  refine z_hp wpt_3 ?_
  refine z_aload_n d_Tap_readSize_26 rfl 27 rfl ?_
  refine z_get d_Tap_readSize_27 30 rfl fl_Tap_84_7 wt_1 rfl ?_
  refine z_bipush d_Tap_readSize_30 (-9) (by decide) 32 rfl ?_
  refine z_icmp_eq d_Tap_readSize_32 39 35 (by decide) rfl (fun h2 => ?_) (fun hzz => absurd rfl hzz)
  refine z_iconst d_Tap_readSize_39 0 (by decide) 40 rfl ?_
  exact z_ireturn d_Tap_readSize_40 (rfl) (rfl)
set_option maxHeartbeats 400000 in
theorem r_Tap_readSize_t {tk : Int32} {bt crf nt : Nat → Int32} {T PF PS : Nat → Option Nat} {C : Nat → Nat → Int32} {rc g pp bn sc : Nat → Int32} {b : zR} {u : zU} {tl : List zC} {p q : Nat} {z e c m y a : Int32} (hp : p ≤ 24) (hq : q ≤ p) (h : sg bt p q = 115) (hd : dg bt p (q + 1) = true) : Ret 3 0 0 m_Tap_readSize [.ref 1] (wld (tk, tpf p q z e c m y a, bt, (T, C, rc, PF, PS, g, pp, bn, sc), b, crf, nt) u tl) (some (.int 1)) (wld (tk, tpf p ((rnm bt p 3 (q + 1) 0).1) ((rnm bt p 3 (q + 1) 0).2) e c m y a, bt, (T, C, rc, PF, PS, g, pp, bn, sc), b, crf, nt) u tl) := by
  have hq1 : q + 1 ≤ p := sg_lt (mt := bt) (by rw [h]; decide)
  refine Ret.of (n := 0) (by decide) (rfl) rfl (fun X => ?_)
  refine z_aload_n d_Tap_readSize_0 rfl 1 rfl ?_
  refine z_bipush d_Tap_readSize_1 (-9) (by decide) 3 rfl ?_
  refine z_putI d_Tap_readSize_3 6 rfl fp_Tap_84_7 (Or.inl rfl) wt_1 (by simp) ?_
  refine z_hp wpt_3 ?_
  refine z_aload_n d_Tap_readSize_6 rfl 7 rfl ?_
  refine z_bipush d_Tap_readSize_7 115 (by decide) 9 rfl ?_
  refine z_invv d_Tap_readSize_9 12 rfl hm_Tap_passes lk_Tap_87 im_Tap_passes sl_Tap_Tap_passes rfl wt_1 (r_Tap_passes_t hp hq 115 h) rfl rfl (by decide) rfl rfl (Nat.le_of_ble_eq_true rfl) ?_
  refine z_if_ne d_Tap_readSize_12 17 15 (by decide) rfl (fun h1 => ?_) (fun hzz => absurd hzz (by decide))
  refine z_aload_n d_Tap_readSize_17 rfl 18 rfl ?_
  refine z_aload_n d_Tap_readSize_18 rfl 19 rfl ?_
  refine z_iconst d_Tap_readSize_19 3 (by decide) 20 rfl ?_
  refine z_invv d_Tap_readSize_20 23 rfl hm_Tap_readNumber lk_Tap_91 im_Tap_readNumber sl_Tap_Tap_readNumber rfl wt_1 (r_Tap_readNumber_t hp hq1 3 (by decide) hd) rfl rfl (by decide) rfl rfl (Nat.le_of_ble_eq_true rfl) ?_
  refine z_putI d_Tap_readSize_23 26 rfl fp_Tap_84_7 (Or.inl rfl) wt_1 (by simp) ?_
  refine z_hp wpt_3 ?_
  refine z_aload_n d_Tap_readSize_26 rfl 27 rfl ?_
  refine z_get d_Tap_readSize_27 30 rfl fl_Tap_84_7 wt_1 rfl ?_
  refine z_bipush d_Tap_readSize_30 (-9) (by decide) 32 rfl ?_
  refine z_icmp_eq d_Tap_readSize_32 39 35 (by decide) rfl (fun hzz => absurd hzz (rnm_n9 _ _ (by decide))) (fun h2 => ?_)
  refine z_iconst d_Tap_readSize_35 1 (by decide) 36 rfl ?_
  refine z_goto d_Tap_readSize_36 40 (by decide) ?_
  exact z_ireturn d_Tap_readSize_40 (rfl) (rfl)
set_option maxHeartbeats 400000 in
theorem r_Tap_readSeconds_n {tk : Int32} {bt crf nt : Nat → Int32} {T PF PS : Nat → Option Nat} {C : Nat → Nat → Int32} {rc g pp bn sc : Nat → Int32} {b : zR} {u : zU} {tl : List zC} {p q : Nat} {z e c m y a : Int32} (hp : p ≤ 24) (hq : q ≤ p) (h : ¬ sg bt p q = 116) : Ret 3 0 0 m_Tap_readSeconds [.ref 1] (wld (tk, tpf p q z e c m y a, bt, (T, C, rc, PF, PS, g, pp, bn, sc), b, crf, nt) u tl) (some (.int 1)) (wld (tk, tpf p q z (-9) c m y a, bt, (T, C, rc, PF, PS, g, pp, bn, sc), b, crf, nt) u tl) := by
  refine Ret.of (n := 0) (by decide) (rfl) rfl (fun X => ?_)
  refine z_aload_n d_Tap_readSeconds_0 rfl 1 rfl ?_
  refine z_bipush d_Tap_readSeconds_1 (-9) (by decide) 3 rfl ?_
  refine z_putI d_Tap_readSeconds_3 6 rfl fp_Tap_95_7 (Or.inl rfl) wt_1 (by simp) ?_
  refine z_hp wpt_4 ?_
  refine z_aload_n d_Tap_readSeconds_6 rfl 7 rfl ?_
  refine z_bipush d_Tap_readSeconds_7 116 (by decide) 9 rfl ?_
  refine z_invv d_Tap_readSeconds_9 12 rfl hm_Tap_passes lk_Tap_87 im_Tap_passes sl_Tap_Tap_passes rfl wt_1 (r_Tap_passes_f hp hq 116 h) rfl rfl (by decide) rfl rfl (Nat.le_of_ble_eq_true rfl) ?_
  refine z_if_ne d_Tap_readSeconds_12 17 15 (by decide) rfl (fun hzz => absurd (by decide) hzz) (fun h1 => ?_)
  refine z_iconst d_Tap_readSeconds_15 1 (by decide) 16 rfl ?_
  exact z_ireturn d_Tap_readSeconds_16 (rfl) (rfl)
set_option maxHeartbeats 400000 in
theorem r_Tap_readSeconds_f {tk : Int32} {bt crf nt : Nat → Int32} {T PF PS : Nat → Option Nat} {C : Nat → Nat → Int32} {rc g pp bn sc : Nat → Int32} {b : zR} {u : zU} {tl : List zC} {p q : Nat} {z e c m y a : Int32} (hp : p ≤ 24) (hq : q ≤ p) (h : sg bt p q = 116) (hd : ¬ dg bt p (q + 1) = true) : Ret 3 0 0 m_Tap_readSeconds [.ref 1] (wld (tk, tpf p q z e c m y a, bt, (T, C, rc, PF, PS, g, pp, bn, sc), b, crf, nt) u tl) (some (.int 0)) (wld (tk, tpf p (q + 1) z (-9) c m y a, bt, (T, C, rc, PF, PS, g, pp, bn, sc), b, crf, nt) u tl) := by
  have hq1 : q + 1 ≤ p := sg_lt (mt := bt) (by rw [h]; decide)
  refine Ret.of (n := 0) (by decide) (rfl) rfl (fun X => ?_)
  refine z_aload_n d_Tap_readSeconds_0 rfl 1 rfl ?_
  refine z_bipush d_Tap_readSeconds_1 (-9) (by decide) 3 rfl ?_
  refine z_putI d_Tap_readSeconds_3 6 rfl fp_Tap_95_7 (Or.inl rfl) wt_1 (by simp) ?_
  refine z_hp wpt_4 ?_
  refine z_aload_n d_Tap_readSeconds_6 rfl 7 rfl ?_
  refine z_bipush d_Tap_readSeconds_7 116 (by decide) 9 rfl ?_
  refine z_invv d_Tap_readSeconds_9 12 rfl hm_Tap_passes lk_Tap_87 im_Tap_passes sl_Tap_Tap_passes rfl wt_1 (r_Tap_passes_t hp hq 116 h) rfl rfl (by decide) rfl rfl (Nat.le_of_ble_eq_true rfl) ?_
  refine z_if_ne d_Tap_readSeconds_12 17 15 (by decide) rfl (fun h1 => ?_) (fun hzz => absurd hzz (by decide))
  refine z_aload_n d_Tap_readSeconds_17 rfl 18 rfl ?_
  refine z_aload_n d_Tap_readSeconds_18 rfl 19 rfl ?_
  refine z_iconst d_Tap_readSeconds_19 3 (by decide) 20 rfl ?_
  refine z_invv d_Tap_readSeconds_20 23 rfl hm_Tap_readNumber lk_Tap_91 im_Tap_readNumber sl_Tap_Tap_readNumber rfl wt_1 (r_Tap_readNumber_f hp hq1 3 hd) rfl rfl (by decide) rfl rfl (Nat.le_of_ble_eq_true rfl) ?_
  refine z_putI d_Tap_readSeconds_23 26 rfl fp_Tap_95_7 (Or.inl rfl) wt_1 (by simp) ?_
  refine z_hp wpt_4 ?_
  refine z_aload_n d_Tap_readSeconds_26 rfl 27 rfl ?_
  refine z_get d_Tap_readSeconds_27 30 rfl fl_Tap_95_7 wt_1 rfl ?_
  refine z_bipush d_Tap_readSeconds_30 (-9) (by decide) 32 rfl ?_
  refine z_icmp_eq d_Tap_readSeconds_32 39 35 (by decide) rfl (fun h2 => ?_) (fun hzz => absurd rfl hzz)
  refine z_iconst d_Tap_readSeconds_39 0 (by decide) 40 rfl ?_
  exact z_ireturn d_Tap_readSeconds_40 (rfl) (rfl)
set_option maxHeartbeats 400000 in
theorem r_Tap_readSeconds_t {tk : Int32} {bt crf nt : Nat → Int32} {T PF PS : Nat → Option Nat} {C : Nat → Nat → Int32} {rc g pp bn sc : Nat → Int32} {b : zR} {u : zU} {tl : List zC} {p q : Nat} {z e c m y a : Int32} (hp : p ≤ 24) (hq : q ≤ p) (h : sg bt p q = 116) (hd : dg bt p (q + 1) = true) : Ret 3 0 0 m_Tap_readSeconds [.ref 1] (wld (tk, tpf p q z e c m y a, bt, (T, C, rc, PF, PS, g, pp, bn, sc), b, crf, nt) u tl) (some (.int 1)) (wld (tk, tpf p ((rnm bt p 3 (q + 1) 0).1) z ((rnm bt p 3 (q + 1) 0).2) c m y a, bt, (T, C, rc, PF, PS, g, pp, bn, sc), b, crf, nt) u tl) := by
  have hq1 : q + 1 ≤ p := sg_lt (mt := bt) (by rw [h]; decide)
  refine Ret.of (n := 0) (by decide) (rfl) rfl (fun X => ?_)
  refine z_aload_n d_Tap_readSeconds_0 rfl 1 rfl ?_
  refine z_bipush d_Tap_readSeconds_1 (-9) (by decide) 3 rfl ?_
  refine z_putI d_Tap_readSeconds_3 6 rfl fp_Tap_95_7 (Or.inl rfl) wt_1 (by simp) ?_
  refine z_hp wpt_4 ?_
  refine z_aload_n d_Tap_readSeconds_6 rfl 7 rfl ?_
  refine z_bipush d_Tap_readSeconds_7 116 (by decide) 9 rfl ?_
  refine z_invv d_Tap_readSeconds_9 12 rfl hm_Tap_passes lk_Tap_87 im_Tap_passes sl_Tap_Tap_passes rfl wt_1 (r_Tap_passes_t hp hq 116 h) rfl rfl (by decide) rfl rfl (Nat.le_of_ble_eq_true rfl) ?_
  refine z_if_ne d_Tap_readSeconds_12 17 15 (by decide) rfl (fun h1 => ?_) (fun hzz => absurd hzz (by decide))
  refine z_aload_n d_Tap_readSeconds_17 rfl 18 rfl ?_
  refine z_aload_n d_Tap_readSeconds_18 rfl 19 rfl ?_
  refine z_iconst d_Tap_readSeconds_19 3 (by decide) 20 rfl ?_
  refine z_invv d_Tap_readSeconds_20 23 rfl hm_Tap_readNumber lk_Tap_91 im_Tap_readNumber sl_Tap_Tap_readNumber rfl wt_1 (r_Tap_readNumber_t hp hq1 3 (by decide) hd) rfl rfl (by decide) rfl rfl (Nat.le_of_ble_eq_true rfl) ?_
  refine z_putI d_Tap_readSeconds_23 26 rfl fp_Tap_95_7 (Or.inl rfl) wt_1 (by simp) ?_
  refine z_hp wpt_4 ?_
  refine z_aload_n d_Tap_readSeconds_26 rfl 27 rfl ?_
  refine z_get d_Tap_readSeconds_27 30 rfl fl_Tap_95_7 wt_1 rfl ?_
  refine z_bipush d_Tap_readSeconds_30 (-9) (by decide) 32 rfl ?_
  refine z_icmp_eq d_Tap_readSeconds_32 39 35 (by decide) rfl (fun hzz => absurd hzz (rnm_n9 _ _ (by decide))) (fun h2 => ?_)
  refine z_iconst d_Tap_readSeconds_35 1 (by decide) 36 rfl ?_
  refine z_goto d_Tap_readSeconds_36 40 (by decide) ?_
  exact z_ireturn d_Tap_readSeconds_40 (rfl) (rfl)
set_option maxHeartbeats 400000 in
theorem r_Tap_readColour_n {tk : Int32} {bt crf nt : Nat → Int32} {T PF PS : Nat → Option Nat} {C : Nat → Nat → Int32} {rc g pp bn sc : Nat → Int32} {b : zR} {u : zU} {tl : List zC} {p q : Nat} {z e c m y a : Int32} (hp : p ≤ 24) (hq : q ≤ p) (h : ¬ sg bt p q = 99) : Ret 3 0 0 m_Tap_readColour [.ref 1] (wld (tk, tpf p q z e c m y a, bt, (T, C, rc, PF, PS, g, pp, bn, sc), b, crf, nt) u tl) (some (.int 1)) (wld (tk, tpf p q z e (-9) m y a, bt, (T, C, rc, PF, PS, g, pp, bn, sc), b, crf, nt) u tl) := by
  refine Ret.of (n := 0) (by decide) (rfl) rfl (fun X => ?_)
  refine z_aload_n d_Tap_readColour_0 rfl 1 rfl ?_
  refine z_bipush d_Tap_readColour_1 (-9) (by decide) 3 rfl ?_
  refine z_putI d_Tap_readColour_3 6 rfl fp_Tap_98_7 (Or.inl rfl) wt_1 (by simp) ?_
  refine z_hp wpt_5 ?_
  refine z_aload_n d_Tap_readColour_6 rfl 7 rfl ?_
  refine z_bipush d_Tap_readColour_7 99 (by decide) 9 rfl ?_
  refine z_invv d_Tap_readColour_9 12 rfl hm_Tap_passes lk_Tap_87 im_Tap_passes sl_Tap_Tap_passes rfl wt_1 (r_Tap_passes_f hp hq 99 h) rfl rfl (by decide) rfl rfl (Nat.le_of_ble_eq_true rfl) ?_
  refine z_if_ne d_Tap_readColour_12 17 15 (by decide) rfl (fun hzz => absurd (by decide) hzz) (fun h1 => ?_)
  refine z_iconst d_Tap_readColour_15 1 (by decide) 16 rfl ?_
  exact z_ireturn d_Tap_readColour_16 (rfl) (rfl)
set_option maxHeartbeats 400000 in
theorem r_Tap_readColour_f {tk : Int32} {bt crf nt : Nat → Int32} {T PF PS : Nat → Option Nat} {C : Nat → Nat → Int32} {rc g pp bn sc : Nat → Int32} {b : zR} {u : zU} {tl : List zC} {p q : Nat} {z e c m y a : Int32} (hp : p ≤ 24) (hq : q ≤ p) (h : sg bt p q = 99) (hd : sg bt p (q + 1) < 48) : Ret 3 0 0 m_Tap_readColour [.ref 1] (wld (tk, tpf p q z e c m y a, bt, (T, C, rc, PF, PS, g, pp, bn, sc), b, crf, nt) u tl) (some (.int 0)) (wld (tk, tpf p (q + 1) z e (-9) m y a, bt, (T, C, rc, PF, PS, g, pp, bn, sc), b, crf, nt) u tl) := by
  have hq1 : q + 1 ≤ p := sg_lt (mt := bt) (by rw [h]; decide)
  refine Ret.of (n := 0) (by decide) (rfl) rfl (fun X => ?_)
  refine z_aload_n d_Tap_readColour_0 rfl 1 rfl ?_
  refine z_bipush d_Tap_readColour_1 (-9) (by decide) 3 rfl ?_
  refine z_putI d_Tap_readColour_3 6 rfl fp_Tap_98_7 (Or.inl rfl) wt_1 (by simp) ?_
  refine z_hp wpt_5 ?_
  refine z_aload_n d_Tap_readColour_6 rfl 7 rfl ?_
  refine z_bipush d_Tap_readColour_7 99 (by decide) 9 rfl ?_
  refine z_invv d_Tap_readColour_9 12 rfl hm_Tap_passes lk_Tap_87 im_Tap_passes sl_Tap_Tap_passes rfl wt_1 (r_Tap_passes_t hp hq 99 h) rfl rfl (by decide) rfl rfl (Nat.le_of_ble_eq_true rfl) ?_
  refine z_if_ne d_Tap_readColour_12 17 15 (by decide) rfl (fun h1 => ?_) (fun hzz => absurd hzz (by decide))
  refine z_aload_n d_Tap_readColour_17 rfl 18 rfl ?_
  refine z_invv d_Tap_readColour_18 21 rfl hm_Tap_byteHere lk_Tap_77 im_Tap_byteHere sl_Tap_Tap_byteHere rfl wt_1 (r_Tap_byteHere hp hq1) rfl rfl (by decide) rfl rfl (Nat.le_of_ble_eq_true rfl) ?_
  refine z_bipush d_Tap_readColour_21 48 (by decide) 23 rfl ?_
  refine z_icmp_lt d_Tap_readColour_23 35 26 (by decide) rfl (fun h2 => ?_) (fun hzz => absurd hd hzz)
  refine z_iconst d_Tap_readColour_35 0 (by decide) 36 rfl ?_
  exact z_ireturn d_Tap_readColour_36 (rfl) (rfl)
set_option maxHeartbeats 400000 in
theorem r_Tap_readColour_g {tk : Int32} {bt crf nt : Nat → Int32} {T PF PS : Nat → Option Nat} {C : Nat → Nat → Int32} {rc g pp bn sc : Nat → Int32} {b : zR} {u : zU} {tl : List zC} {p q : Nat} {z e c m y a : Int32} (hp : p ≤ 24) (hq : q ≤ p) (h : sg bt p q = 99) (hd : ¬ sg bt p (q + 1) < 48) (hd2 : ¬ sg bt p (q + 1) ≤ 55) : Ret 3 0 0 m_Tap_readColour [.ref 1] (wld (tk, tpf p q z e c m y a, bt, (T, C, rc, PF, PS, g, pp, bn, sc), b, crf, nt) u tl) (some (.int 0)) (wld (tk, tpf p (q + 1) z e (-9) m y a, bt, (T, C, rc, PF, PS, g, pp, bn, sc), b, crf, nt) u tl) := by
  have hq1 : q + 1 ≤ p := sg_lt (mt := bt) (by rw [h]; decide)
  refine Ret.of (n := 0) (by decide) (rfl) rfl (fun X => ?_)
  refine z_aload_n d_Tap_readColour_0 rfl 1 rfl ?_
  refine z_bipush d_Tap_readColour_1 (-9) (by decide) 3 rfl ?_
  refine z_putI d_Tap_readColour_3 6 rfl fp_Tap_98_7 (Or.inl rfl) wt_1 (by simp) ?_
  refine z_hp wpt_5 ?_
  refine z_aload_n d_Tap_readColour_6 rfl 7 rfl ?_
  refine z_bipush d_Tap_readColour_7 99 (by decide) 9 rfl ?_
  refine z_invv d_Tap_readColour_9 12 rfl hm_Tap_passes lk_Tap_87 im_Tap_passes sl_Tap_Tap_passes rfl wt_1 (r_Tap_passes_t hp hq 99 h) rfl rfl (by decide) rfl rfl (Nat.le_of_ble_eq_true rfl) ?_
  refine z_if_ne d_Tap_readColour_12 17 15 (by decide) rfl (fun h1 => ?_) (fun hzz => absurd hzz (by decide))
  refine z_aload_n d_Tap_readColour_17 rfl 18 rfl ?_
  refine z_invv d_Tap_readColour_18 21 rfl hm_Tap_byteHere lk_Tap_77 im_Tap_byteHere sl_Tap_Tap_byteHere rfl wt_1 (r_Tap_byteHere hp hq1) rfl rfl (by decide) rfl rfl (Nat.le_of_ble_eq_true rfl) ?_
  refine z_bipush d_Tap_readColour_21 48 (by decide) 23 rfl ?_
  refine z_icmp_lt d_Tap_readColour_23 35 26 (by decide) rfl (fun hzz => absurd hzz hd) (fun h2 => ?_)
  refine z_aload_n d_Tap_readColour_26 rfl 27 rfl ?_
  refine z_invv d_Tap_readColour_27 30 rfl hm_Tap_byteHere lk_Tap_77 im_Tap_byteHere sl_Tap_Tap_byteHere rfl wt_1 (r_Tap_byteHere hp hq1) rfl rfl (by decide) rfl rfl (Nat.le_of_ble_eq_true rfl) ?_
  refine z_bipush d_Tap_readColour_30 55 (by decide) 32 rfl ?_
  refine z_icmp_le d_Tap_readColour_32 37 35 (by decide) rfl (fun hzz => absurd hzz hd2) (fun h3 => ?_)
  refine z_iconst d_Tap_readColour_35 0 (by decide) 36 rfl ?_
  exact z_ireturn d_Tap_readColour_36 (rfl) (rfl)
set_option maxHeartbeats 400000 in
theorem r_Tap_readColour_t {tk : Int32} {bt crf nt : Nat → Int32} {T PF PS : Nat → Option Nat} {C : Nat → Nat → Int32} {rc g pp bn sc : Nat → Int32} {b : zR} {u : zU} {tl : List zC} {p q : Nat} {z e c m y a : Int32} (hp : p ≤ 24) (hq : q ≤ p) (h : sg bt p q = 99) (hd0 : ¬ sg bt p (q + 1) < 48) (hd2 : sg bt p (q + 1) ≤ 55) : Ret 3 0 0 m_Tap_readColour [.ref 1] (wld (tk, tpf p q z e c m y a, bt, (T, C, rc, PF, PS, g, pp, bn, sc), b, crf, nt) u tl) (some (.int 1)) (wld (tk, tpf p (q + 2) z e (sg bt p (q + 1) - 48) m y a, bt, (T, C, rc, PF, PS, g, pp, bn, sc), b, crf, nt) u tl) := by
  have hq1 : q + 1 ≤ p := sg_lt (mt := bt) (by rw [h]; decide)
  have hd : dg bt p (q + 1) = true := by
    unfold dg
    rw [Bool.and_eq_true, decide_eq_true_eq, decide_eq_true_eq]
    exact ⟨Int32.not_lt.mp hd0, Int32.le_trans hd2 (by decide)⟩
  have er : rnm bt p 1 (q + 1) 0 = (q + 2, sg bt p (q + 1) - 48) := by
    simp only [rnm]
    rw [if_pos hd]
    simp
  refine Ret.of (n := 0) (by decide) (rfl) rfl (fun X => ?_)
  refine z_aload_n d_Tap_readColour_0 rfl 1 rfl ?_
  refine z_bipush d_Tap_readColour_1 (-9) (by decide) 3 rfl ?_
  refine z_putI d_Tap_readColour_3 6 rfl fp_Tap_98_7 (Or.inl rfl) wt_1 (by simp) ?_
  refine z_hp wpt_5 ?_
  refine z_aload_n d_Tap_readColour_6 rfl 7 rfl ?_
  refine z_bipush d_Tap_readColour_7 99 (by decide) 9 rfl ?_
  refine z_invv d_Tap_readColour_9 12 rfl hm_Tap_passes lk_Tap_87 im_Tap_passes sl_Tap_Tap_passes rfl wt_1 (r_Tap_passes_t hp hq 99 h) rfl rfl (by decide) rfl rfl (Nat.le_of_ble_eq_true rfl) ?_
  refine z_if_ne d_Tap_readColour_12 17 15 (by decide) rfl (fun h1 => ?_) (fun hzz => absurd hzz (by decide))
  refine z_aload_n d_Tap_readColour_17 rfl 18 rfl ?_
  refine z_invv d_Tap_readColour_18 21 rfl hm_Tap_byteHere lk_Tap_77 im_Tap_byteHere sl_Tap_Tap_byteHere rfl wt_1 (r_Tap_byteHere hp hq1) rfl rfl (by decide) rfl rfl (Nat.le_of_ble_eq_true rfl) ?_
  refine z_bipush d_Tap_readColour_21 48 (by decide) 23 rfl ?_
  refine z_icmp_lt d_Tap_readColour_23 35 26 (by decide) rfl (fun hzz => absurd hzz hd0) (fun h2 => ?_)
  refine z_aload_n d_Tap_readColour_26 rfl 27 rfl ?_
  refine z_invv d_Tap_readColour_27 30 rfl hm_Tap_byteHere lk_Tap_77 im_Tap_byteHere sl_Tap_Tap_byteHere rfl wt_1 (r_Tap_byteHere hp hq1) rfl rfl (by decide) rfl rfl (Nat.le_of_ble_eq_true rfl) ?_
  refine z_bipush d_Tap_readColour_30 55 (by decide) 32 rfl ?_
  refine z_icmp_le d_Tap_readColour_32 37 35 (by decide) rfl (fun h3 => ?_) (fun hzz => absurd hd2 hzz)
  refine z_aload_n d_Tap_readColour_37 rfl 38 rfl ?_
  refine z_aload_n d_Tap_readColour_38 rfl 39 rfl ?_
  refine z_iconst d_Tap_readColour_39 1 (by decide) 40 rfl ?_
  refine z_invv d_Tap_readColour_40 43 rfl hm_Tap_readNumber lk_Tap_91 im_Tap_readNumber sl_Tap_Tap_readNumber rfl wt_1 (r_Tap_readNumber_t hp hq1 1 (by decide) hd) rfl rfl (by decide) rfl rfl (Nat.le_of_ble_eq_true rfl) ?_
  refine z_putI d_Tap_readColour_43 46 rfl fp_Tap_98_7 (Or.inl rfl) wt_1 (by simp) ?_
  refine z_hp wpt_5 ?_
  refine z_iconst d_Tap_readColour_46 1 (by decide) 47 rfl ?_
  exact z_ireturn d_Tap_readColour_47 (rfl) (by rw [er])
def mkL (bt : Nat → Int32) (p q : Nat) : Nat → Nat × Int32
  | 0 => (q, 0)
  | i + 1 => if sg bt p (mkL bt p q i).1 = zStr.getD i 0 then ((mkL bt p q i).1 + 1, (mkL bt p q i).2 ||| 1 <<< (nI i &&& 31)) else mkL bt p q i
theorem zStr_n1 {i : Nat} (hi : i < 8) : ¬ zStr.getD i 0 = -1 := by
  rcases (show i = 0 ∨ i = 1 ∨ i = 2 ∨ i = 3 ∨ i = 4 ∨ i = 5 ∨ i = 6 ∨ i = 7 by omega) with rfl | rfl | rfl | rfl | rfl | rfl | rfl | rfl <;> decide
theorem mkL_le {bt : Nat → Int32} {p q : Nat} (hq : q ≤ p) : ∀ i, i ≤ 8 → (mkL bt p q i).1 ≤ p
  | 0, _ => hq
  | i + 1, h => by
    simp only [mkL]
    by_cases hs : sg bt p (mkL bt p q i).1 = zStr.getD i 0
    · rw [if_pos hs]
      exact sg_lt (mt := bt) (by rw [hs]; exact zStr_n1 (by omega))
    · rw [if_neg hs]
      exact mkL_le hq i (by omega)
set_option maxHeartbeats 400000 in
theorem r_Tap_readMarks {tk : Int32} {bt crf nt : Nat → Int32} {T PF PS : Nat → Option Nat} {C : Nat → Nat → Int32} {rc g pp bn sc : Nat → Int32} {b : zR} {u : zU} {tl : List zC} {p q : Nat} {z e c m y a : Int32} (hp : p ≤ 24) (hq : q ≤ p) : Ret 4 0 0 m_Tap_readMarks [.ref 1] (wld (tk, tpf p q z e c m y a, bt, (T, C, rc, PF, PS, g, pp, bn, sc), b, crf, nt) u tl) (some (.int 1)) (wld (tk, tpf p ((mkL bt p q 8).1) z e c ((mkL bt p q 8).2) y a, bt, (T, C, rc, PF, PS, g, pp, bn, sc), b, crf, nt) u tl) := by
  refine Ret.of (n := 1) (by decide) (rfl) rfl (fun X => ?_)
  refine z_aload_n d_Tap_readMarks_0 rfl 1 rfl ?_
  refine z_iconst d_Tap_readMarks_1 0 (by decide) 2 rfl ?_
  refine z_putI d_Tap_readMarks_2 5 rfl fp_Tap_52_7 (Or.inl rfl) wt_1 (by simp) ?_
  refine z_hp wpt_6 ?_
  refine z_iconst d_Tap_readMarks_5 0 (by decide) 6 rfl ?_
  refine z_istore_n d_Tap_readMarks_6 7 rfl (by decide) rfl ?_
  refine zloop (fun i => Z X m_Tap_readMarks 4 0 0 (some (.int 1)) (wld (tk, tpf p ((mkL bt p q 8).1) z e c ((mkL bt p q 8).2) y a, bt, (T, C, rc, PF, PS, g, pp, bn, sc), b, crf, nt) u tl) 7 [some (.ref 1), some (.int (nI i))] [] (wld (tk, tpf p ((mkL bt p q (i)).1) z e c ((mkL bt p q (i)).2) y a, bt, (T, C, rc, PF, PS, g, pp, bn, sc), b, crf, nt) u tl)) (8) ?_ ?_ 0 (Nat.zero_le _)
  · refine z_iload_n d_Tap_readMarks_7 rfl 8 rfl ?_
    refine z_bipush d_Tap_readMarks_8 8 (by decide) 10 rfl ?_
    refine z_icmp_ge d_Tap_readMarks_10 53 13 (by decide) rfl (fun h1 => ?_) (fun hzz => absurd (by decide) hzz)
    refine z_iconst d_Tap_readMarks_53 1 (by decide) 54 rfl ?_
    exact z_ireturn d_Tap_readMarks_54 (rfl) (rfl)
  · intro i hi ih
    refine z_iload_n d_Tap_readMarks_7 rfl 8 rfl ?_
    refine z_bipush d_Tap_readMarks_8 8 (by decide) 10 rfl ?_
    refine z_icmp_ge d_Tap_readMarks_10 53 13 (by decide) rfl (fun hzz => absurd hzz (show ¬ nI 8 ≤ nI i from nI_ge hi (by decide))) (fun h2 => ?_)
    refine z_iload_n d_Tap_readMarks_13 rfl 14 rfl ?_
    refine z_ldcS rfl d_Tap_readMarks_14 16 rfl ?_
    refine z_invX d_Tap_readMarks_16 19 rfl hm_Str_length lk_Tap_103 im_Str_length sl_Str_Str_length (r_Str_length) rfl rfl (by decide) rfl rfl (Nat.le_of_ble_eq_true rfl) ?_
    refine z_icmp_ge d_Tap_readMarks_19 53 22 (by decide) rfl (fun hzz => absurd hzz (show ¬ nI 8 ≤ nI i from nI_ge hi (by decide))) (fun h3 => ?_)
    refine z_aload_n d_Tap_readMarks_22 rfl 23 rfl ?_
    refine z_ldcS rfl d_Tap_readMarks_23 25 rfl ?_
    refine z_iload_n d_Tap_readMarks_25 rfl 26 rfl ?_
    refine z_invX d_Tap_readMarks_26 29 rfl hm_Str_charAt lk_Tap_107 im_Str_charAt sl_Str_Str_charAt (r_Str_charAt i hi) rfl rfl (by decide) rfl rfl (Nat.le_of_ble_eq_true rfl) ?_
    have hqi := mkL_le (bt := bt) hq i (by omega)
    by_cases hs : sg bt p (mkL bt p q i).1 = zStr.getD i 0
    · refine z_invv d_Tap_readMarks_29 32 rfl hm_Tap_passes lk_Tap_87 im_Tap_passes sl_Tap_Tap_passes rfl wt_1 (r_Tap_passes_t hp hqi _ hs) rfl rfl (by decide) rfl rfl (Nat.le_of_ble_eq_true rfl) ?_
      have e2 : mkL bt p q (i + 1) = ((mkL bt p q i).1 + 1, (mkL bt p q i).2 ||| 1 <<< (nI i &&& 31)) := by simp only [mkL]; rw [if_pos hs]
      refine z_if_eq d_Tap_readMarks_32 47 35 (by decide) rfl (fun hzz => absurd hzz (by decide)) (fun h4 => ?_)
      refine z_aload_n d_Tap_readMarks_35 rfl 36 rfl ?_
      refine z_dup d_Tap_readMarks_36 rfl 37 rfl ?_
      refine z_get d_Tap_readMarks_37 40 rfl fl_Tap_52_7 wt_1 rfl ?_
      refine z_iconst d_Tap_readMarks_40 1 (by decide) 41 rfl ?_
      refine z_iload_n d_Tap_readMarks_41 rfl 42 rfl ?_
      refine z_ishl d_Tap_readMarks_42 43 rfl ?_
      refine z_ior d_Tap_readMarks_43 44 rfl ?_
      refine z_putI d_Tap_readMarks_44 47 rfl fp_Tap_52_7 (Or.inl rfl) wt_1 (by simp) ?_
      refine z_hp wpt_6 ?_
      refine z_iinc d_Tap_readMarks_47 1 (by decide) 50 rfl rfl (by decide) rfl ?_
      refine z_goto d_Tap_readMarks_50 7 (by decide) ?_
      rw [e2] at ih
      exact z_Lg _ ih (by simp [zLw, List.set, nI_succ])
    · refine z_invv d_Tap_readMarks_29 32 rfl hm_Tap_passes lk_Tap_87 im_Tap_passes sl_Tap_Tap_passes rfl wt_1 (r_Tap_passes_f hp hqi _ hs) rfl rfl (by decide) rfl rfl (Nat.le_of_ble_eq_true rfl) ?_
      have e2 : mkL bt p q (i + 1) = (mkL bt p q i) := by simp only [mkL]; rw [if_neg hs]
      refine z_if_eq d_Tap_readMarks_32 47 35 (by decide) rfl (fun h5 => ?_) (fun hzz => absurd (by decide) hzz)
      refine z_iinc d_Tap_readMarks_47 1 (by decide) 50 rfl rfl (by decide) rfl ?_
      refine z_goto d_Tap_readMarks_50 7 (by decide) ?_
      rw [e2] at ih
      exact z_Lg _ ih (by simp [zLw, List.set, nI_succ])
set_option maxHeartbeats 400000 in
theorem r_Tap_readYears_n {tk : Int32} {bt crf nt : Nat → Int32} {T PF PS : Nat → Option Nat} {C : Nat → Nat → Int32} {rc g pp bn sc : Nat → Int32} {b : zR} {u : zU} {tl : List zC} {p q : Nat} {z e c m y a : Int32} (hp : p ≤ 24) (hq : q ≤ p) (h : ¬ sg bt p q = 64) : Ret 3 0 0 m_Tap_readYears [.ref 1] (wld (tk, tpf p q z e c m y a, bt, (T, C, rc, PF, PS, g, pp, bn, sc), b, crf, nt) u tl) (some (.int 0)) (wld (tk, tpf p q z e c m y a, bt, (T, C, rc, PF, PS, g, pp, bn, sc), b, crf, nt) u tl) := by
  refine Ret.of (n := 0) (by decide) (rfl) rfl (fun X => ?_)
  refine z_aload_n d_Tap_readYears_0 rfl 1 rfl ?_
  refine z_bipush d_Tap_readYears_1 64 (by decide) 3 rfl ?_
  refine z_invv d_Tap_readYears_3 6 rfl hm_Tap_passes lk_Tap_87 im_Tap_passes sl_Tap_Tap_passes rfl wt_1 (r_Tap_passes_f hp hq 64 h) rfl rfl (by decide) rfl rfl (Nat.le_of_ble_eq_true rfl) ?_
  refine z_if_ne d_Tap_readYears_6 11 9 (by decide) rfl (fun hzz => absurd (by decide) hzz) (fun h1 => ?_)
  refine z_iconst d_Tap_readYears_9 0 (by decide) 10 rfl ?_
  exact z_ireturn d_Tap_readYears_10 (rfl) (rfl)
set_option maxHeartbeats 400000 in
theorem r_Tap_readYears_f {tk : Int32} {bt crf nt : Nat → Int32} {T PF PS : Nat → Option Nat} {C : Nat → Nat → Int32} {rc g pp bn sc : Nat → Int32} {b : zR} {u : zU} {tl : List zC} {p q : Nat} {z e c m y a : Int32} (hp : p ≤ 24) (hq : q ≤ p) (h : sg bt p q = 64) (hd : ¬ dg bt p (q + 1) = true) : Ret 3 0 0 m_Tap_readYears [.ref 1] (wld (tk, tpf p q z e c m y a, bt, (T, C, rc, PF, PS, g, pp, bn, sc), b, crf, nt) u tl) (some (.int 0)) (wld (tk, tpf p (q + 1) z e c m (-9) a, bt, (T, C, rc, PF, PS, g, pp, bn, sc), b, crf, nt) u tl) := by
  have hq1 : q + 1 ≤ p := sg_lt (mt := bt) (by rw [h]; decide)
  refine Ret.of (n := 0) (by decide) (rfl) rfl (fun X => ?_)
  refine z_aload_n d_Tap_readYears_0 rfl 1 rfl ?_
  refine z_bipush d_Tap_readYears_1 64 (by decide) 3 rfl ?_
  refine z_invv d_Tap_readYears_3 6 rfl hm_Tap_passes lk_Tap_87 im_Tap_passes sl_Tap_Tap_passes rfl wt_1 (r_Tap_passes_t hp hq 64 h) rfl rfl (by decide) rfl rfl (Nat.le_of_ble_eq_true rfl) ?_
  refine z_if_ne d_Tap_readYears_6 11 9 (by decide) rfl (fun h1 => ?_) (fun hzz => absurd hzz (by decide))
  refine z_aload_n d_Tap_readYears_11 rfl 12 rfl ?_
  refine z_aload_n d_Tap_readYears_12 rfl 13 rfl ?_
  refine z_iconst d_Tap_readYears_13 2 (by decide) 14 rfl ?_
  refine z_invv d_Tap_readYears_14 17 rfl hm_Tap_readNumber lk_Tap_91 im_Tap_readNumber sl_Tap_Tap_readNumber rfl wt_1 (r_Tap_readNumber_f hp hq1 2 hd) rfl rfl (by decide) rfl rfl (Nat.le_of_ble_eq_true rfl) ?_
  refine z_putI d_Tap_readYears_17 20 rfl fp_Tap_68_7 (Or.inl rfl) wt_1 (by simp) ?_
  refine z_hp wpt_7 ?_
  refine z_aload_n d_Tap_readYears_20 rfl 21 rfl ?_
  refine z_get d_Tap_readYears_21 24 rfl fl_Tap_68_7 wt_1 rfl ?_
  refine z_bipush d_Tap_readYears_24 (-9) (by decide) 26 rfl ?_
  refine z_icmp_eq d_Tap_readYears_26 33 29 (by decide) rfl (fun h2 => ?_) (fun hzz => absurd rfl hzz)
  refine z_iconst d_Tap_readYears_33 0 (by decide) 34 rfl ?_
  exact z_ireturn d_Tap_readYears_34 (rfl) (rfl)
set_option maxHeartbeats 400000 in
theorem r_Tap_readYears_t {tk : Int32} {bt crf nt : Nat → Int32} {T PF PS : Nat → Option Nat} {C : Nat → Nat → Int32} {rc g pp bn sc : Nat → Int32} {b : zR} {u : zU} {tl : List zC} {p q : Nat} {z e c m y a : Int32} (hp : p ≤ 24) (hq : q ≤ p) (h : sg bt p q = 64) (hd : dg bt p (q + 1) = true) : Ret 3 0 0 m_Tap_readYears [.ref 1] (wld (tk, tpf p q z e c m y a, bt, (T, C, rc, PF, PS, g, pp, bn, sc), b, crf, nt) u tl) (some (.int 1)) (wld (tk, tpf p ((rnm bt p 2 (q + 1) 0).1) z e c m ((rnm bt p 2 (q + 1) 0).2) a, bt, (T, C, rc, PF, PS, g, pp, bn, sc), b, crf, nt) u tl) := by
  have hq1 : q + 1 ≤ p := sg_lt (mt := bt) (by rw [h]; decide)
  refine Ret.of (n := 0) (by decide) (rfl) rfl (fun X => ?_)
  refine z_aload_n d_Tap_readYears_0 rfl 1 rfl ?_
  refine z_bipush d_Tap_readYears_1 64 (by decide) 3 rfl ?_
  refine z_invv d_Tap_readYears_3 6 rfl hm_Tap_passes lk_Tap_87 im_Tap_passes sl_Tap_Tap_passes rfl wt_1 (r_Tap_passes_t hp hq 64 h) rfl rfl (by decide) rfl rfl (Nat.le_of_ble_eq_true rfl) ?_
  refine z_if_ne d_Tap_readYears_6 11 9 (by decide) rfl (fun h1 => ?_) (fun hzz => absurd hzz (by decide))
  refine z_aload_n d_Tap_readYears_11 rfl 12 rfl ?_
  refine z_aload_n d_Tap_readYears_12 rfl 13 rfl ?_
  refine z_iconst d_Tap_readYears_13 2 (by decide) 14 rfl ?_
  refine z_invv d_Tap_readYears_14 17 rfl hm_Tap_readNumber lk_Tap_91 im_Tap_readNumber sl_Tap_Tap_readNumber rfl wt_1 (r_Tap_readNumber_t hp hq1 2 (by decide) hd) rfl rfl (by decide) rfl rfl (Nat.le_of_ble_eq_true rfl) ?_
  refine z_putI d_Tap_readYears_17 20 rfl fp_Tap_68_7 (Or.inl rfl) wt_1 (by simp) ?_
  refine z_hp wpt_7 ?_
  refine z_aload_n d_Tap_readYears_20 rfl 21 rfl ?_
  refine z_get d_Tap_readYears_21 24 rfl fl_Tap_68_7 wt_1 rfl ?_
  refine z_bipush d_Tap_readYears_24 (-9) (by decide) 26 rfl ?_
  refine z_icmp_eq d_Tap_readYears_26 33 29 (by decide) rfl (fun hzz => absurd hzz (rnm_n9 _ _ (by decide))) (fun h2 => ?_)
  refine z_iconst d_Tap_readYears_29 1 (by decide) 30 rfl ?_
  refine z_goto d_Tap_readYears_30 34 (by decide) ?_
  exact z_ireturn d_Tap_readYears_34 (rfl) (rfl)
/-- the bytes on the tape are no -1 -/
def BTS (bt : Nat → Int32) (p : Nat) : Prop := ∀ j, j < p → ¬ bt j = -1
theorem sg_end {bt : Nat → Int32} {p q : Nat} (hB : BTS bt p) (hq : q ≤ p) : decide (sg bt p q = -1) = decide (q = p) := by
  unfold sg
  by_cases h : q < p
  · rw [if_pos h, decide_eq_false (hB q h), decide_eq_false (by omega)]
  · rw [if_neg h, decide_eq_true rfl, decide_eq_true (show q = p by omega)]
theorem zb_one {b : Bool} (h : ¬ zb b = 0) : zb b = 1 := by cases b with
  | false => exact absurd rfl h
  | true => rfl
set_option maxHeartbeats 400000 in
theorem r_Tap_readAsked_n {tk : Int32} {bt crf nt : Nat → Int32} {T PF PS : Nat → Option Nat} {C : Nat → Nat → Int32} {rc g pp bn sc : Nat → Int32} {b : zR} {u : zU} {tl : List zC} {p q : Nat} {z e c m y a : Int32} (hp : p ≤ 24) (hq : q ≤ p) (hB : BTS bt p) (h : ¬ sg bt p q = 63) : Ret 2 0 0 m_Tap_readAsked [.ref 1] (wld (tk, tpf p q z e c m y a, bt, (T, C, rc, PF, PS, g, pp, bn, sc), b, crf, nt) u tl) (some (.int (zb (decide (q = p))))) (wld (tk, tpf p q z e c m y (0), bt, (T, C, rc, PF, PS, g, pp, bn, sc), b, crf, nt) u tl) := by
  refine Ret.of (n := 0) (by decide) (zb_nar _) rfl (fun X => ?_)
  refine z_aload_n d_Tap_readAsked_0 rfl 1 rfl ?_
  refine z_aload_n d_Tap_readAsked_1 rfl 2 rfl ?_
  refine z_bipush d_Tap_readAsked_2 63 (by decide) 4 rfl ?_
  refine z_invv d_Tap_readAsked_4 7 rfl hm_Tap_passes lk_Tap_87 im_Tap_passes sl_Tap_Tap_passes rfl wt_1 (r_Tap_passes_f hp hq 63 h) rfl rfl (by decide) rfl rfl (Nat.le_of_ble_eq_true rfl) ?_
  refine z_put d_Tap_readAsked_7 10 rfl fp_Tap_43_7 (Or.inl rfl) wt_1 (fun _ _ => rfl) (fun _ _ => rfl) (by simp) ?_
  refine z_hp wpt_8 ?_
  refine z_aload_n d_Tap_readAsked_10 rfl 11 rfl ?_
  refine z_invv d_Tap_readAsked_11 14 rfl hm_Tap_byteHere lk_Tap_77 im_Tap_byteHere sl_Tap_Tap_byteHere rfl wt_1 (r_Tap_byteHere hp hq) rfl rfl (by decide) rfl rfl (Nat.le_of_ble_eq_true rfl) ?_
  refine z_iconst d_Tap_readAsked_14 (-1) (by decide) 15 rfl ?_
  refine z_icmp_ne d_Tap_readAsked_15 22 18 (by decide) rfl (fun h1 => ?_) (fun h1 => ?_)
  · have e1 : decide (q = p) = false := by rw [← sg_end hB hq]; exact decide_eq_false h1
    refine z_iconst d_Tap_readAsked_22 0 (by decide) 23 rfl ?_
    exact z_ireturn d_Tap_readAsked_23 (by rw [e1]; rfl) (rfl)
  · have e1 : decide (q = p) = true := by rw [← sg_end hB hq]; exact decide_eq_true h1
    refine z_iconst d_Tap_readAsked_18 1 (by decide) 19 rfl ?_
    refine z_goto d_Tap_readAsked_19 23 (by decide) ?_
    exact z_ireturn d_Tap_readAsked_23 (by rw [e1]; rfl) (rfl)
set_option maxHeartbeats 400000 in
theorem r_Tap_readAsked_t {tk : Int32} {bt crf nt : Nat → Int32} {T PF PS : Nat → Option Nat} {C : Nat → Nat → Int32} {rc g pp bn sc : Nat → Int32} {b : zR} {u : zU} {tl : List zC} {p q : Nat} {z e c m y a : Int32} (hp : p ≤ 24) (hq : q ≤ p) (hB : BTS bt p) (h : sg bt p q = 63) : Ret 2 0 0 m_Tap_readAsked [.ref 1] (wld (tk, tpf p q z e c m y a, bt, (T, C, rc, PF, PS, g, pp, bn, sc), b, crf, nt) u tl) (some (.int (zb (decide (q + 1 = p))))) (wld (tk, tpf p (q + 1) z e c m y (1), bt, (T, C, rc, PF, PS, g, pp, bn, sc), b, crf, nt) u tl) := by
  have hq1 : q + 1 ≤ p := sg_lt (mt := bt) (by rw [h]; decide)
  refine Ret.of (n := 0) (by decide) (zb_nar _) rfl (fun X => ?_)
  refine z_aload_n d_Tap_readAsked_0 rfl 1 rfl ?_
  refine z_aload_n d_Tap_readAsked_1 rfl 2 rfl ?_
  refine z_bipush d_Tap_readAsked_2 63 (by decide) 4 rfl ?_
  refine z_invv d_Tap_readAsked_4 7 rfl hm_Tap_passes lk_Tap_87 im_Tap_passes sl_Tap_Tap_passes rfl wt_1 (r_Tap_passes_t hp hq 63 h) rfl rfl (by decide) rfl rfl (Nat.le_of_ble_eq_true rfl) ?_
  refine z_put d_Tap_readAsked_7 10 rfl fp_Tap_43_7 (Or.inl rfl) wt_1 (fun _ _ => rfl) (fun _ _ => rfl) (by simp) ?_
  refine z_hp wpt_8 ?_
  refine z_aload_n d_Tap_readAsked_10 rfl 11 rfl ?_
  refine z_invv d_Tap_readAsked_11 14 rfl hm_Tap_byteHere lk_Tap_77 im_Tap_byteHere sl_Tap_Tap_byteHere rfl wt_1 (r_Tap_byteHere hp hq1) rfl rfl (by decide) rfl rfl (Nat.le_of_ble_eq_true rfl) ?_
  refine z_iconst d_Tap_readAsked_14 (-1) (by decide) 15 rfl ?_
  refine z_icmp_ne d_Tap_readAsked_15 22 18 (by decide) rfl (fun h1 => ?_) (fun h1 => ?_)
  · have e1 : decide (q + 1 = p) = false := by rw [← sg_end hB hq1]; exact decide_eq_false h1
    refine z_iconst d_Tap_readAsked_22 0 (by decide) 23 rfl ?_
    exact z_ireturn d_Tap_readAsked_23 (by rw [e1]; rfl) (rfl)
  · have e1 : decide (q + 1 = p) = true := by rw [← sg_end hB hq1]; exact decide_eq_true h1
    refine z_iconst d_Tap_readAsked_18 1 (by decide) 19 rfl ?_
    refine z_goto d_Tap_readAsked_19 23 (by decide) ?_
    exact z_ireturn d_Tap_readAsked_23 (by rw [e1]; rfl) (rfl)
theorem f5_lo {bt : Nat → Int32} {p q : Nat} {rd : Nat → Int32} {j : Nat} (hj : j < 4) : (f5 bt p q rd).2.2 j = rd j := by
  unfold f5
  repeat' split
  all_goals simp [upd, show ¬ j = 4 by omega, show ¬ j = 5 by omega]
theorem s_rd5 {tk : Int32} {bt crf nt : Nat → Int32} {T PF PS : Nat → Option Nat} {C : Nat → Nat → Int32} {rc g pp bn sc : Nat → Int32} {b : zR} {u : zU} {tl : List zC} {p q : Nat} {z e c m y a : Int32} {rd : Nat → Int32} (hp : p ≤ 24) (hq : q ≤ p) (hB : BTS bt p)  : ∃ y' a' : Int32, ((f5 bt p q rd).1 = true → y' = (f5 bt p q rd).2.2 4 ∧ a' = (f5 bt p q rd).2.2 5) ∧ ∀ X, Z X m_Tap_read 5 0 0 (some (.int (zb (f5 bt p q rd).1))) (wld (tk, tpf p ((f5 bt p q rd).2.1) z e c m (y') (a'), bt, (T, C, rc, PF, PS, g, pp, bn, sc), b, crf, nt) u tl) 33 [some (.ref 1)] [] (wld (tk, tpf p q z e c m y a, bt, (T, C, rc, PF, PS, g, pp, bn, sc), b, crf, nt) u tl) := by
  by_cases h64 : sg bt p q = 64
  · by_cases hd : dg bt p (q + 1) = true
    · have hq1 : q + 1 ≤ p := sg_lt (mt := bt) (by rw [h64]; decide)
      have hr := (rnm_le (mt := bt) 2 (q + 1) 0 hq1).2
      by_cases h63 : sg bt p (rnm bt p 2 (q + 1) 0).1 = 63
      · have ef : f5 bt p q rd = (decide ((rnm bt p 2 (q + 1) 0).1 + 1 = p), (rnm bt p 2 (q + 1) 0).1 + 1, upd (upd rd 4 (rnm bt p 2 (q + 1) 0).2) 5 1) := by unfold f5; rw [if_pos h64, if_pos hd, if_pos h63]
        rw [ef]
        refine ⟨(rnm bt p 2 (q + 1) 0).2, 1, fun _ => by simp [upd], fun X => ?_⟩
        refine z_aload_n d_Tap_read_33 rfl 34 rfl ?_
        refine z_invv d_Tap_read_34 37 rfl hm_Tap_readYears lk_Tap_37 im_Tap_readYears sl_Tap_Tap_readYears rfl wt_1 (r_Tap_readYears_t hp hq h64 hd) rfl rfl (by decide) rfl rfl (Nat.le_of_ble_eq_true rfl) ?_
        refine z_if_eq d_Tap_read_37 51 40 (by decide) rfl (fun hzz => absurd hzz (by decide)) (fun h1 => ?_)
        refine z_aload_n d_Tap_read_40 rfl 41 rfl ?_
        refine z_invv d_Tap_read_41 44 rfl hm_Tap_readAsked lk_Tap_40 im_Tap_readAsked sl_Tap_Tap_readAsked rfl wt_1 (r_Tap_readAsked_t hp hr hB h63) rfl rfl (by decide) rfl rfl (Nat.le_of_ble_eq_true rfl) ?_
        refine z_if_eq d_Tap_read_44 51 47 (by decide) rfl (fun h2 => ?_) (fun h2 => ?_)
        · have e1 := h2
          refine z_iconst d_Tap_read_51 0 (by decide) 52 rfl ?_
          exact z_ireturn d_Tap_read_52 (by rw [e1]) (rfl)
        · have e1 := zb_one h2
          refine z_iconst d_Tap_read_47 1 (by decide) 48 rfl ?_
          refine z_goto d_Tap_read_48 52 (by decide) ?_
          exact z_ireturn d_Tap_read_52 (by rw [e1]) (rfl)
      · have ef : f5 bt p q rd = (decide ((rnm bt p 2 (q + 1) 0).1 = p), (rnm bt p 2 (q + 1) 0).1, upd (upd rd 4 (rnm bt p 2 (q + 1) 0).2) 5 0) := by unfold f5; rw [if_pos h64, if_pos hd, if_neg h63]
        rw [ef]
        refine ⟨(rnm bt p 2 (q + 1) 0).2, 0, fun _ => by simp [upd], fun X => ?_⟩
        refine z_aload_n d_Tap_read_33 rfl 34 rfl ?_
        refine z_invv d_Tap_read_34 37 rfl hm_Tap_readYears lk_Tap_37 im_Tap_readYears sl_Tap_Tap_readYears rfl wt_1 (r_Tap_readYears_t hp hq h64 hd) rfl rfl (by decide) rfl rfl (Nat.le_of_ble_eq_true rfl) ?_
        refine z_if_eq d_Tap_read_37 51 40 (by decide) rfl (fun hzz => absurd hzz (by decide)) (fun h1 => ?_)
        refine z_aload_n d_Tap_read_40 rfl 41 rfl ?_
        refine z_invv d_Tap_read_41 44 rfl hm_Tap_readAsked lk_Tap_40 im_Tap_readAsked sl_Tap_Tap_readAsked rfl wt_1 (r_Tap_readAsked_n hp hr hB h63) rfl rfl (by decide) rfl rfl (Nat.le_of_ble_eq_true rfl) ?_
        refine z_if_eq d_Tap_read_44 51 47 (by decide) rfl (fun h2 => ?_) (fun h2 => ?_)
        · have e1 := h2
          refine z_iconst d_Tap_read_51 0 (by decide) 52 rfl ?_
          exact z_ireturn d_Tap_read_52 (by rw [e1]) (rfl)
        · have e1 := zb_one h2
          refine z_iconst d_Tap_read_47 1 (by decide) 48 rfl ?_
          refine z_goto d_Tap_read_48 52 (by decide) ?_
          exact z_ireturn d_Tap_read_52 (by rw [e1]) (rfl)
    · have ef : f5 bt p q rd = (false, q + 1, rd) := by unfold f5; rw [if_pos h64, if_neg hd]
      rw [ef]
      refine ⟨-9, a, (fun h => by cases h), fun X => ?_⟩
      refine z_aload_n d_Tap_read_33 rfl 34 rfl ?_
      refine z_invv d_Tap_read_34 37 rfl hm_Tap_readYears lk_Tap_37 im_Tap_readYears sl_Tap_Tap_readYears rfl wt_1 (r_Tap_readYears_f hp hq h64 hd) rfl rfl (by decide) rfl rfl (Nat.le_of_ble_eq_true rfl) ?_
      refine z_if_eq d_Tap_read_37 51 40 (by decide) rfl (fun h1 => ?_) (fun hzz => absurd (by decide) hzz)
      refine z_iconst d_Tap_read_51 0 (by decide) 52 rfl ?_
      exact z_ireturn d_Tap_read_52 (rfl) (rfl)
  · have ef : f5 bt p q rd = (false, q, rd) := by unfold f5; rw [if_neg h64]
    rw [ef]
    refine ⟨y, a, (fun h => by cases h), fun X => ?_⟩
    refine z_aload_n d_Tap_read_33 rfl 34 rfl ?_
    refine z_invv d_Tap_read_34 37 rfl hm_Tap_readYears lk_Tap_37 im_Tap_readYears sl_Tap_Tap_readYears rfl wt_1 (r_Tap_readYears_n hp hq h64) rfl rfl (by decide) rfl rfl (Nat.le_of_ble_eq_true rfl) ?_
    refine z_if_eq d_Tap_read_37 51 40 (by decide) rfl (fun h1 => ?_) (fun hzz => absurd (by decide) hzz)
    refine z_iconst d_Tap_read_51 0 (by decide) 52 rfl ?_
    exact z_ireturn d_Tap_read_52 (rfl) (rfl)
theorem mkO_la {c : Int32} {i : Nat} (hi : i < 8) (hs : ¬ c = zStr.getD i 0) : mkO c ≤ nI i - 1 ↔ mkO c ≤ nI (i + 1) - 1 := by
  unfold mkO
  rcases (show i = 0 ∨ i = 1 ∨ i = 2 ∨ i = 3 ∨ i = 4 ∨ i = 5 ∨ i = 6 ∨ i = 7 by omega) with rfl | rfl | rfl | rfl | rfl | rfl | rfl | rfl
  all_goals
    repeat' split
    all_goals first | decide | exact absurd (by assumption) hs
theorem mkO_8 (c : Int32) : mkO c ≤ nI 8 - 1 := by
  unfold mkO
  repeat' split
  all_goals decide
theorem f4_la {mt : Nat → Int32} {p q f i : Nat} {rd : Nat → Int32} (hi : i < 8) (hs : ¬ sg mt p q = zStr.getD i 0) : f4 mt p (f + 1) (nI i - 1) q rd = f4 mt p (f + 1) (nI (i + 1) - 1) q rd := by
  simp only [f4]
  by_cases h : mkO (sg mt p q) ≤ nI i - 1
  · rw [if_pos h, if_pos ((mkO_la hi hs).mp h)]
  · rw [if_neg h, if_neg (fun g => h ((mkO_la hi hs).mpr g))]
theorem f4_eat {mt : Nat → Int32} {p q f i : Nat} {rd : Nat → Int32} (hi : i < 8) (hs : sg mt p q = zStr.getD i 0) : f4 mt p (f + 1) (nI i - 1) q rd = f4 mt p f (nI (i + 1) - 1) (q + 1) (upd rd 3 (rd 3 ||| 1 <<< (nI i &&& 31))) := by
  simp only [f4]
  have e : mkO (zStr.getD i 0) = nI i ∧ ¬ nI i ≤ nI i - 1 ∧ nI i = nI (i + 1) - 1 := by
    rcases (show i = 0 ∨ i = 1 ∨ i = 2 ∨ i = 3 ∨ i = 4 ∨ i = 5 ∨ i = 6 ∨ i = 7 by omega) with rfl | rfl | rfl | rfl | rfl | rfl | rfl | rfl <;> decide
  rw [hs, e.1, if_neg e.2.1, ← e.2.2]
theorem upd_self {f : Nat → Int32} {k : Nat} {v : Int32} (h : f k = v) : upd f k v = f := by
  funext j
  unfold upd
  by_cases hj : j = k
  · subst hj; simp [h]
  · simp [hj]
theorem f4_to {mt : Nat → Int32} {p q : Nat} {rd : Nat → Int32} (h3 : rd 3 = 0) : ∀ i, i ≤ 8 → ∃ f, 9 - i ≤ f ∧ f4 mt p 9 (-1) q rd = f4 mt p f (nI i - 1) (mkL mt p q i).1 (upd rd 3 (mkL mt p q i).2)
  | 0, _ => ⟨9, by omega, by
      show f4 mt p 9 (-1) q rd = f4 mt p 9 (nI 0 - 1) q (upd rd 3 0)
      rw [upd_self h3, show nI 0 - 1 = -1 by decide]⟩
  | i + 1, h => by
    obtain ⟨f, hf, e⟩ := f4_to h3 i (by omega)
    obtain ⟨f', rfl⟩ : ∃ f', f = f' + 1 := ⟨f - 1, by omega⟩
    rw [e]
    simp only [mkL]
    by_cases hs : sg mt p (mkL mt p q i).1 = zStr.getD i 0
    · rw [if_pos hs]
      refine ⟨f', by omega, ?_⟩
      rw [f4_eat (by omega) hs, uu]
      simp [upd]
    · rw [if_neg hs]
      exact ⟨f' + 1, by omega, f4_la (by omega) hs⟩
theorem f4_mk {mt : Nat → Int32} {p q : Nat} {rd : Nat → Int32} (h3 : rd 3 = 0) : f4 mt p 9 (-1) q rd = f5 mt p (mkL mt p q 8).1 (upd rd 3 (mkL mt p q 8).2) := by
  obtain ⟨f, hf, e⟩ := f4_to (mt := mt) (p := p) (q := q) h3 8 (Nat.le_refl _)
  obtain ⟨f', rfl⟩ : ∃ f', f = f' + 1 := ⟨f - 1, by omega⟩
  rw [e]
  simp only [f4]
  rw [if_pos (mkO_8 _)]
theorem f4_lo {mt : Nat → Int32} {p q : Nat} {rd : Nat → Int32} {j : Nat} (h3 : rd 3 = 0) (hj : j < 3) : (f4 mt p 9 (-1) q rd).2.2 j = rd j := by
  rw [f4_mk h3, f5_lo (by omega)]
  simp [upd, show ¬ j = 3 by omega]
theorem f3_lo {mt : Nat → Int32} {p q : Nat} {rd : Nat → Int32} {j : Nat} (h3 : rd 3 = 0) (hj : j < 2) : (f3 mt p q rd).2.2 j = rd j := by
  unfold f3
  repeat' split
  · rw [f4_lo (by simp [upd, h3]) (by omega)]; simp [upd, show ¬ j = 2 by omega]
  · rfl
  · rfl
  · rw [f4_lo h3 (by omega)]
theorem f2_lo {mt : Nat → Int32} {p q : Nat} {rd : Nat → Int32} {j : Nat} (h3 : rd 3 = 0) (hj : j < 1) : (f2 mt p q rd).2.2 j = rd j := by
  unfold f2
  repeat' split
  · rw [f3_lo (by simp [upd, h3]) (by omega)]; simp [upd, show ¬ j = 1 by omega]
  · rfl
  · rw [f3_lo h3 (by omega)]
theorem s_rd4 {tk : Int32} {bt crf nt : Nat → Int32} {T PF PS : Nat → Option Nat} {C : Nat → Nat → Int32} {rc g pp bn sc : Nat → Int32} {b : zR} {u : zU} {tl : List zC} {p q : Nat} {z e c m y a : Int32} {rd : Nat → Int32} (hp : p ≤ 24) (hq : q ≤ p) (hB : BTS bt p) (h3 : rd 3 = 0) : ∃ m' y' a' : Int32, ((f4 bt p 9 (-1) q rd).1 = true → m' = (f4 bt p 9 (-1) q rd).2.2 3 ∧ y' = (f4 bt p 9 (-1) q rd).2.2 4 ∧ a' = (f4 bt p 9 (-1) q rd).2.2 5) ∧ ∀ X, Z X m_Tap_read 5 0 0 (some (.int (zb (f4 bt p 9 (-1) q rd).1))) (wld (tk, tpf p ((f4 bt p 9 (-1) q rd).2.1) z e c (m') (y') (a'), bt, (T, C, rc, PF, PS, g, pp, bn, sc), b, crf, nt) u tl) 26 [some (.ref 1)] [] (wld (tk, tpf p q z e c m y a, bt, (T, C, rc, PF, PS, g, pp, bn, sc), b, crf, nt) u tl) := by
  obtain ⟨y', a', h5, hz⟩ := s_rd5 (tk := tk) (bt := bt) (crf := crf) (nt := nt) (T := T) (PF := PF) (PS := PS) (C := C) (rc := rc) (g := g) (pp := pp) (bn := bn) (sc := sc) (b := b) (u := u) (tl := tl) (q := (mkL bt p q 8).1) (rd := upd rd 3 (mkL bt p q 8).2) (z := z) (e := e) (c := c) (m := (mkL bt p q 8).2) (y := y) (a := a) hp (mkL_le hq 8 (Nat.le_refl _)) hB
  rw [f4_mk h3]
  refine ⟨(mkL bt p q 8).2, y', a', fun h => ⟨by rw [f5_lo (by decide)]; simp [upd], h5 h⟩, fun X => ?_⟩
  refine z_aload_n d_Tap_read_26 rfl 27 rfl ?_
  refine z_invv d_Tap_read_27 30 rfl hm_Tap_readMarks lk_Tap_34 im_Tap_readMarks sl_Tap_Tap_readMarks rfl wt_1 (r_Tap_readMarks hp hq) rfl rfl (by decide) rfl rfl (Nat.le_of_ble_eq_true rfl) ?_
  refine z_if_eq d_Tap_read_30 51 33 (by decide) rfl (fun hzz => absurd hzz (by decide)) (fun h1 => ?_)
  exact hz X
theorem s_rd3 {tk : Int32} {bt crf nt : Nat → Int32} {T PF PS : Nat → Option Nat} {C : Nat → Nat → Int32} {rc g pp bn sc : Nat → Int32} {b : zR} {u : zU} {tl : List zC} {p q : Nat} {z e c m y a : Int32} {rd : Nat → Int32} (hp : p ≤ 24) (hq : q ≤ p) (hB : BTS bt p) (h2 : rd 2 = -9) (h3 : rd 3 = 0) : ∃ c' m' y' a' : Int32, ((f3 bt p q rd).1 = true → c' = (f3 bt p q rd).2.2 2 ∧ m' = (f3 bt p q rd).2.2 3 ∧ y' = (f3 bt p q rd).2.2 4 ∧ a' = (f3 bt p q rd).2.2 5) ∧ ∀ X, Z X m_Tap_read 5 0 0 (some (.int (zb (f3 bt p q rd).1))) (wld (tk, tpf p ((f3 bt p q rd).2.1) z e (c') (m') (y') (a'), bt, (T, C, rc, PF, PS, g, pp, bn, sc), b, crf, nt) u tl) 19 [some (.ref 1)] [] (wld (tk, tpf p q z e c m y a, bt, (T, C, rc, PF, PS, g, pp, bn, sc), b, crf, nt) u tl) := by
  by_cases h : sg bt p q = 99
  · have hq1 : q + 1 ≤ p := sg_lt (mt := bt) (by rw [h]; decide)
    by_cases h48 : 48 ≤ sg bt p (q + 1)
    · by_cases h55 : sg bt p (q + 1) ≤ 55
      · have hq2 : q + 2 ≤ p := sg_lt (mt := bt) (q := q + 1) (fun z => by rw [z] at h48; exact absurd h48 (by decide))
        have ef : f3 bt p q rd = f4 bt p 9 (-1) (q + 2) (upd rd 2 (sg bt p (q + 1) - 48)) := by unfold f3; rw [if_pos h, if_pos h48, if_pos h55]
        obtain ⟨m', y', a', h5, hz⟩ := s_rd4 (tk := tk) (bt := bt) (crf := crf) (nt := nt) (T := T) (PF := PF) (PS := PS) (C := C) (rc := rc) (g := g) (pp := pp) (bn := bn) (sc := sc) (b := b) (u := u) (tl := tl) (q := q + 2) (rd := upd rd 2 (sg bt p (q + 1) - 48)) (z := z) (e := e) (c := sg bt p (q + 1) - 48) (m := m) (y := y) (a := a) hp hq2 hB (by simp [upd, h3])
        rw [ef]
        refine ⟨sg bt p (q + 1) - 48, m', y', a', fun h => ⟨by rw [f4_lo (by simp [upd, h3]) (by decide)]; simp [upd], h5 h⟩, fun X => ?_⟩
        refine z_aload_n d_Tap_read_19 rfl 20 rfl ?_
        refine z_invv d_Tap_read_20 23 rfl hm_Tap_readColour lk_Tap_31 im_Tap_readColour sl_Tap_Tap_readColour rfl wt_1 (r_Tap_readColour_t hp hq h (Int32.not_lt.mpr h48) h55) rfl rfl (by decide) rfl rfl (Nat.le_of_ble_eq_true rfl) ?_
        refine z_if_eq d_Tap_read_23 51 26 (by decide) rfl (fun hzz => absurd hzz (by decide)) (fun h1 => ?_)
        exact hz X
      · have ef : f3 bt p q rd = (false, q + 1, rd) := by unfold f3; rw [if_pos h, if_pos h48, if_neg h55]
        rw [ef]
        refine ⟨-9, m, y, a, (fun h => by cases h), fun X => ?_⟩
        refine z_aload_n d_Tap_read_19 rfl 20 rfl ?_
        refine z_invv d_Tap_read_20 23 rfl hm_Tap_readColour lk_Tap_31 im_Tap_readColour sl_Tap_Tap_readColour rfl wt_1 (r_Tap_readColour_g hp hq h (Int32.not_lt.mpr h48) h55) rfl rfl (by decide) rfl rfl (Nat.le_of_ble_eq_true rfl) ?_
        refine z_if_eq d_Tap_read_23 51 26 (by decide) rfl (fun h1 => ?_) (fun hzz => absurd (by decide) hzz)
        refine z_iconst d_Tap_read_51 0 (by decide) 52 rfl ?_
        exact z_ireturn d_Tap_read_52 (rfl) (rfl)
    · have ef : f3 bt p q rd = (false, q + 1, rd) := by unfold f3; rw [if_pos h, if_neg h48]
      rw [ef]
      refine ⟨-9, m, y, a, (fun h => by cases h), fun X => ?_⟩
      refine z_aload_n d_Tap_read_19 rfl 20 rfl ?_
      refine z_invv d_Tap_read_20 23 rfl hm_Tap_readColour lk_Tap_31 im_Tap_readColour sl_Tap_Tap_readColour rfl wt_1 (r_Tap_readColour_f hp hq h (Int32.not_le.mp h48)) rfl rfl (by decide) rfl rfl (Nat.le_of_ble_eq_true rfl) ?_
      refine z_if_eq d_Tap_read_23 51 26 (by decide) rfl (fun h1 => ?_) (fun hzz => absurd (by decide) hzz)
      refine z_iconst d_Tap_read_51 0 (by decide) 52 rfl ?_
      exact z_ireturn d_Tap_read_52 (rfl) (rfl)
  · have ef : f3 bt p q rd = f4 bt p 9 (-1) q rd := by unfold f3; rw [if_neg h]
    obtain ⟨m', y', a', h5, hz⟩ := s_rd4 (tk := tk) (bt := bt) (crf := crf) (nt := nt) (T := T) (PF := PF) (PS := PS) (C := C) (rc := rc) (g := g) (pp := pp) (bn := bn) (sc := sc) (b := b) (u := u) (tl := tl) (q := q) (rd := rd) (z := z) (e := e) (c := -9) (m := m) (y := y) (a := a) hp hq hB h3
    rw [ef]
    refine ⟨-9, m', y', a', fun h => ⟨by rw [f4_lo h3 (by decide), h2], h5 h⟩, fun X => ?_⟩
    refine z_aload_n d_Tap_read_19 rfl 20 rfl ?_
    refine z_invv d_Tap_read_20 23 rfl hm_Tap_readColour lk_Tap_31 im_Tap_readColour sl_Tap_Tap_readColour rfl wt_1 (r_Tap_readColour_n hp hq h) rfl rfl (by decide) rfl rfl (Nat.le_of_ble_eq_true rfl) ?_
    refine z_if_eq d_Tap_read_23 51 26 (by decide) rfl (fun hzz => absurd hzz (by decide)) (fun h1 => ?_)
    exact hz X
theorem s_rd2 {tk : Int32} {bt crf nt : Nat → Int32} {T PF PS : Nat → Option Nat} {C : Nat → Nat → Int32} {rc g pp bn sc : Nat → Int32} {b : zR} {u : zU} {tl : List zC} {p q : Nat} {z e c m y a : Int32} {rd : Nat → Int32} (hp : p ≤ 24) (hq : q ≤ p) (hB : BTS bt p) (h1 : rd 1 = -9) (h2 : rd 2 = -9) (h3 : rd 3 = 0) : ∃ e' c' m' y' a' : Int32, ((f2 bt p q rd).1 = true → e' = (f2 bt p q rd).2.2 1 ∧ c' = (f2 bt p q rd).2.2 2 ∧ m' = (f2 bt p q rd).2.2 3 ∧ y' = (f2 bt p q rd).2.2 4 ∧ a' = (f2 bt p q rd).2.2 5) ∧ ∀ X, Z X m_Tap_read 5 0 0 (some (.int (zb (f2 bt p q rd).1))) (wld (tk, tpf p ((f2 bt p q rd).2.1) z (e') (c') (m') (y') (a'), bt, (T, C, rc, PF, PS, g, pp, bn, sc), b, crf, nt) u tl) 12 [some (.ref 1)] [] (wld (tk, tpf p q z e c m y a, bt, (T, C, rc, PF, PS, g, pp, bn, sc), b, crf, nt) u tl) := by
  by_cases h : sg bt p q = 116
  · have hq1 : q + 1 ≤ p := sg_lt (mt := bt) (by rw [h]; decide)
    by_cases hd : dg bt p (q + 1) = true
    · have ef : f2 bt p q rd = f3 bt p (rnm bt p 3 (q + 1) 0).1 (upd rd 1 (rnm bt p 3 (q + 1) 0).2) := by unfold f2; rw [if_pos h, if_pos hd]
      obtain ⟨c', m', y', a', h5, hz⟩ := s_rd3 (tk := tk) (bt := bt) (crf := crf) (nt := nt) (T := T) (PF := PF) (PS := PS) (C := C) (rc := rc) (g := g) (pp := pp) (bn := bn) (sc := sc) (b := b) (u := u) (tl := tl) (q := (rnm bt p 3 (q + 1) 0).1) (rd := upd rd 1 (rnm bt p 3 (q + 1) 0).2) (z := z) (e := (rnm bt p 3 (q + 1) 0).2) (c := c) (m := m) (y := y) (a := a) hp (rnm_le (mt := bt) 3 (q + 1) 0 hq1).2 hB (by simp [upd, h2]) (by simp [upd, h3])
      rw [ef]
      refine ⟨(rnm bt p 3 (q + 1) 0).2, c', m', y', a', fun h => ⟨by rw [f3_lo (by simp [upd, h3]) (by decide)]; simp [upd], h5 h⟩, fun X => ?_⟩
      refine z_aload_n d_Tap_read_12 rfl 13 rfl ?_
      refine z_invv d_Tap_read_13 16 rfl hm_Tap_readSeconds lk_Tap_28 im_Tap_readSeconds sl_Tap_Tap_readSeconds rfl wt_1 (r_Tap_readSeconds_t hp hq h hd) rfl rfl (by decide) rfl rfl (Nat.le_of_ble_eq_true rfl) ?_
      refine z_if_eq d_Tap_read_16 51 19 (by decide) rfl (fun hzz => absurd hzz (by decide)) (fun h1 => ?_)
      exact hz X
    · have ef : f2 bt p q rd = (false, q + 1, rd) := by unfold f2; rw [if_pos h, if_neg hd]
      rw [ef]
      refine ⟨-9, c, m, y, a, (fun h => by cases h), fun X => ?_⟩
      refine z_aload_n d_Tap_read_12 rfl 13 rfl ?_
      refine z_invv d_Tap_read_13 16 rfl hm_Tap_readSeconds lk_Tap_28 im_Tap_readSeconds sl_Tap_Tap_readSeconds rfl wt_1 (r_Tap_readSeconds_f hp hq h hd) rfl rfl (by decide) rfl rfl (Nat.le_of_ble_eq_true rfl) ?_
      refine z_if_eq d_Tap_read_16 51 19 (by decide) rfl (fun h1 => ?_) (fun hzz => absurd (by decide) hzz)
      refine z_iconst d_Tap_read_51 0 (by decide) 52 rfl ?_
      exact z_ireturn d_Tap_read_52 (rfl) (rfl)
  · have ef : f2 bt p q rd = f3 bt p q rd := by unfold f2; rw [if_neg h]
    obtain ⟨c', m', y', a', h5, hz⟩ := s_rd3 (tk := tk) (bt := bt) (crf := crf) (nt := nt) (T := T) (PF := PF) (PS := PS) (C := C) (rc := rc) (g := g) (pp := pp) (bn := bn) (sc := sc) (b := b) (u := u) (tl := tl) (q := q) (rd := rd) (z := z) (e := -9) (c := c) (m := m) (y := y) (a := a) hp hq hB h2 h3
    rw [ef]
    refine ⟨-9, c', m', y', a', fun h => ⟨by rw [f3_lo h3 (by decide), h1], h5 h⟩, fun X => ?_⟩
    refine z_aload_n d_Tap_read_12 rfl 13 rfl ?_
    refine z_invv d_Tap_read_13 16 rfl hm_Tap_readSeconds lk_Tap_28 im_Tap_readSeconds sl_Tap_Tap_readSeconds rfl wt_1 (r_Tap_readSeconds_n hp hq h) rfl rfl (by decide) rfl rfl (Nat.le_of_ble_eq_true rfl) ?_
    refine z_if_eq d_Tap_read_16 51 19 (by decide) rfl (fun hzz => absurd hzz (by decide)) (fun h1 => ?_)
    exact hz X
theorem s_rd1 {tk : Int32} {bt crf nt : Nat → Int32} {T PF PS : Nat → Option Nat} {C : Nat → Nat → Int32} {rc g pp bn sc : Nat → Int32} {b : zR} {u : zU} {tl : List zC} {p q : Nat} {z e c m y a : Int32} {rd : Nat → Int32} (hp : p ≤ 24) (hq : q ≤ p) (hB : BTS bt p) (h0 : rd 0 = -9) (h1 : rd 1 = -9) (h2 : rd 2 = -9) (h3 : rd 3 = 0) : ∃ z' e' c' m' y' a' : Int32, ((f1 bt p q rd).1 = true → z' = (f1 bt p q rd).2.2 0 ∧ e' = (f1 bt p q rd).2.2 1 ∧ c' = (f1 bt p q rd).2.2 2 ∧ m' = (f1 bt p q rd).2.2 3 ∧ y' = (f1 bt p q rd).2.2 4 ∧ a' = (f1 bt p q rd).2.2 5) ∧ ∀ X, Z X m_Tap_read 5 0 0 (some (.int (zb (f1 bt p q rd).1))) (wld (tk, tpf p ((f1 bt p q rd).2.1) (z') (e') (c') (m') (y') (a'), bt, (T, C, rc, PF, PS, g, pp, bn, sc), b, crf, nt) u tl) 5 [some (.ref 1)] [] (wld (tk, tpf p q z e c m y a, bt, (T, C, rc, PF, PS, g, pp, bn, sc), b, crf, nt) u tl) := by
  by_cases h : sg bt p q = 115
  · have hq1 : q + 1 ≤ p := sg_lt (mt := bt) (by rw [h]; decide)
    by_cases hd : dg bt p (q + 1) = true
    · have ef : f1 bt p q rd = f2 bt p (rnm bt p 3 (q + 1) 0).1 (upd rd 0 (rnm bt p 3 (q + 1) 0).2) := by unfold f1; rw [if_pos h, if_pos hd]
      obtain ⟨e', c', m', y', a', h5, hz⟩ := s_rd2 (tk := tk) (bt := bt) (crf := crf) (nt := nt) (T := T) (PF := PF) (PS := PS) (C := C) (rc := rc) (g := g) (pp := pp) (bn := bn) (sc := sc) (b := b) (u := u) (tl := tl) (q := (rnm bt p 3 (q + 1) 0).1) (rd := upd rd 0 (rnm bt p 3 (q + 1) 0).2) (z := (rnm bt p 3 (q + 1) 0).2) (e := e) (c := c) (m := m) (y := y) (a := a) hp (rnm_le (mt := bt) 3 (q + 1) 0 hq1).2 hB (by simp [upd, h1]) (by simp [upd, h2]) (by simp [upd, h3])
      rw [ef]
      refine ⟨(rnm bt p 3 (q + 1) 0).2, e', c', m', y', a', fun h => ⟨by rw [f2_lo (by simp [upd, h3]) (by decide)]; simp [upd], h5 h⟩, fun X => ?_⟩
      refine z_aload_n d_Tap_read_5 rfl 6 rfl ?_
      refine z_invv d_Tap_read_6 9 rfl hm_Tap_readSize lk_Tap_24 im_Tap_readSize sl_Tap_Tap_readSize rfl wt_1 (r_Tap_readSize_t hp hq h hd) rfl rfl (by decide) rfl rfl (Nat.le_of_ble_eq_true rfl) ?_
      refine z_if_eq d_Tap_read_9 51 12 (by decide) rfl (fun hzz => absurd hzz (by decide)) (fun h1 => ?_)
      exact hz X
    · have ef : f1 bt p q rd = (false, q + 1, rd) := by unfold f1; rw [if_pos h, if_neg hd]
      rw [ef]
      refine ⟨-9, e, c, m, y, a, (fun h => by cases h), fun X => ?_⟩
      refine z_aload_n d_Tap_read_5 rfl 6 rfl ?_
      refine z_invv d_Tap_read_6 9 rfl hm_Tap_readSize lk_Tap_24 im_Tap_readSize sl_Tap_Tap_readSize rfl wt_1 (r_Tap_readSize_f hp hq h hd) rfl rfl (by decide) rfl rfl (Nat.le_of_ble_eq_true rfl) ?_
      refine z_if_eq d_Tap_read_9 51 12 (by decide) rfl (fun h1 => ?_) (fun hzz => absurd (by decide) hzz)
      refine z_iconst d_Tap_read_51 0 (by decide) 52 rfl ?_
      exact z_ireturn d_Tap_read_52 (rfl) (rfl)
  · have ef : f1 bt p q rd = f2 bt p q rd := by unfold f1; rw [if_neg h]
    obtain ⟨e', c', m', y', a', h5, hz⟩ := s_rd2 (tk := tk) (bt := bt) (crf := crf) (nt := nt) (T := T) (PF := PF) (PS := PS) (C := C) (rc := rc) (g := g) (pp := pp) (bn := bn) (sc := sc) (b := b) (u := u) (tl := tl) (q := q) (rd := rd) (z := -9) (e := e) (c := c) (m := m) (y := y) (a := a) hp hq hB h1 h2 h3
    rw [ef]
    refine ⟨-9, e', c', m', y', a', fun h => ⟨by rw [f2_lo h3 (by decide), h0], h5 h⟩, fun X => ?_⟩
    refine z_aload_n d_Tap_read_5 rfl 6 rfl ?_
    refine z_invv d_Tap_read_6 9 rfl hm_Tap_readSize lk_Tap_24 im_Tap_readSize sl_Tap_Tap_readSize rfl wt_1 (r_Tap_readSize_n hp hq h) rfl rfl (by decide) rfl rfl (Nat.le_of_ble_eq_true rfl) ?_
    refine z_if_eq d_Tap_read_9 51 12 (by decide) rfl (fun hzz => absurd hzz (by decide)) (fun h1 => ?_)
    exact hz X
theorem r_Tap_read {tk : Int32} {bt crf nt : Nat → Int32} {T PF PS : Nat → Option Nat} {C : Nat → Nat → Int32} {rc g pp bn sc : Nat → Int32} {b : zR} {u : zU} {tl : List zC} {p q : Nat} {z e c m y a : Int32} (rd : Nat → Int32) (hp : p ≤ 24) (hB : BTS bt p) : ∃ z' e' c' m' y' a' : Int32, ((f1 bt p 0 (rd0 rd)).1 = true → z' = (f1 bt p 0 (rd0 rd)).2.2 0 ∧ e' = (f1 bt p 0 (rd0 rd)).2.2 1 ∧ c' = (f1 bt p 0 (rd0 rd)).2.2 2 ∧ m' = (f1 bt p 0 (rd0 rd)).2.2 3 ∧ y' = (f1 bt p 0 (rd0 rd)).2.2 4 ∧ a' = (f1 bt p 0 (rd0 rd)).2.2 5) ∧ Ret 5 0 0 m_Tap_read [.ref 1] (wld (tk, tpf p q z e c m y a, bt, (T, C, rc, PF, PS, g, pp, bn, sc), b, crf, nt) u tl) (some (.int (zb (f1 bt p 0 (rd0 rd)).1))) (wld (tk, tpf p ((f1 bt p 0 (rd0 rd)).2.1) (z') (e') (c') (m') (y') (a'), bt, (T, C, rc, PF, PS, g, pp, bn, sc), b, crf, nt) u tl) := by
  obtain ⟨z', e', c', m', y', a', h5, hz⟩ := s_rd1 (tk := tk) (bt := bt) (crf := crf) (nt := nt) (T := T) (PF := PF) (PS := PS) (C := C) (rc := rc) (g := g) (pp := pp) (bn := bn) (sc := sc) (b := b) (u := u) (tl := tl) (q := 0) (rd := rd0 rd) (z := z) (e := e) (c := c) (m := m) (y := y) (a := a) hp (Nat.zero_le _) hB rfl rfl rfl rfl
  refine ⟨z', e', c', m', y', a', h5, ?_⟩
  refine Ret.of (n := 0) (by decide) (zb_nar _) rfl (fun X => ?_)
  refine z_aload_n d_Tap_read_0 rfl 1 rfl ?_
  refine z_iconst d_Tap_read_1 0 (by decide) 2 rfl ?_
  refine z_top (.int (nI 0)) rfl ?_
  refine z_putI d_Tap_read_2 5 rfl fp_Tap_21_7 (Or.inl rfl) wt_1 (by simp) ?_
  refine z_hp wpt_2 ?_
  exact hz X
