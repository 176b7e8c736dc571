def tpf (p q : Nat) (z e c m y a : Int32) : Nat → Int32 := fun j => if j = 0 then nI p else if j = 1 then nI q else if j = 2 then z else if j = 3 then e else if j = 4 then c else if j = 5 then m else if j = 6 then y else if j = 7 then a else 0
theorem wt_1 {tk : Int32} {bt crf nt : Nat → Int32} {T PF PS : Nat → Option Nat} {C : Nat → Nat → Int32} {rc g pp bn sc : Nat → Int32} {b : zR} {u : zU} {tl : List zC} {p q : Nat} {z e c m y a : Int32} : (wld (tk, tpf p q z e c m y a, bt, (T, C, rc, PF, PS, g, pp, bn, sc), b, crf, nt) u tl)[1]? = some (.inr (.inr (7, [.ref 2, .int (nI p), .int (nI q), .int z, .int e, .int c, .int m, .int y, .int a]))) := rfl
theorem wpt_1 {tk : Int32} {bt crf nt : Nat → Int32} {T PF PS : Nat → Option Nat} {C : Nat → Nat → Int32} {rc g pp bn sc : Nat → Int32} {b : zR} {u : zU} {tl : List zC} {p q : Nat} {z e c m y a : Int32} {v : Nat} : (wld (tk, tpf p q z e c m y a, bt, (T, C, rc, PF, PS, g, pp, bn, sc), b, crf, nt) u tl).set 1 (.inr (.inr (7, List.set [.ref 2, .int (nI p), .int (nI q), .int z, .int e, .int c, .int m, .int y, .int a] 1 (.int (nI v))))) = wld (tk, tpf (v) q z e c m y a, bt, (T, C, rc, PF, PS, g, pp, bn, sc), b, crf, nt) u tl := rfl
theorem wpt_2 {tk : Int32} {bt crf nt : Nat → Int32} {T PF PS : Nat → Option Nat} {C : Nat → Nat → Int32} {rc g pp bn sc : Nat → Int32} {b : zR} {u : zU} {tl : List zC} {p q : Nat} {z e c m y a : Int32} {v : Nat} : (wld (tk, tpf p q z e c m y a, bt, (T, C, rc, PF, PS, g, pp, bn, sc), b, crf, nt) u tl).set 1 (.inr (.inr (7, List.set [.ref 2, .int (nI p), .int (nI q), .int z, .int e, .int c, .int m, .int y, .int a] 2 (.int (nI v))))) = wld (tk, tpf p (v) z e c m y a, bt, (T, C, rc, PF, PS, g, pp, bn, sc), b, crf, nt) u tl := rfl
theorem wpt_3 {tk : Int32} {bt crf nt : Nat → Int32} {T PF PS : Nat → Option Nat} {C : Nat → Nat → Int32} {rc g pp bn sc : Nat → Int32} {b : zR} {u : zU} {tl : List zC} {p q : Nat} {z e c m y a : Int32} {v : Int32} : (wld (tk, tpf p q z e c m y a, bt, (T, C, rc, PF, PS, g, pp, bn, sc), b, crf, nt) u tl).set 1 (.inr (.inr (7, List.set [.ref 2, .int (nI p), .int (nI q), .int z, .int e, .int c, .int m, .int y, .int a] 3 (.int v)))) = wld (tk, tpf p q (v) e c m y a, bt, (T, C, rc, PF, PS, g, pp, bn, sc), b, crf, nt) u tl := rfl
theorem wpt_4 {tk : Int32} {bt crf nt : Nat → Int32} {T PF PS : Nat → Option Nat} {C : Nat → Nat → Int32} {rc g pp bn sc : Nat → Int32} {b : zR} {u : zU} {tl : List zC} {p q : Nat} {z e c m y a : Int32} {v : Int32} : (wld (tk, tpf p q z e c m y a, bt, (T, C, rc, PF, PS, g, pp, bn, sc), b, crf, nt) u tl).set 1 (.inr (.inr (7, List.set [.ref 2, .int (nI p), .int (nI q), .int z, .int e, .int c, .int m, .int y, .int a] 4 (.int v)))) = wld (tk, tpf p q z (v) c m y a, bt, (T, C, rc, PF, PS, g, pp, bn, sc), b, crf, nt) u tl := rfl
theorem wpt_5 {tk : Int32} {bt crf nt : Nat → Int32} {T PF PS : Nat → Option Nat} {C : Nat → Nat → Int32} {rc g pp bn sc : Nat → Int32} {b : zR} {u : zU} {tl : List zC} {p q : Nat} {z e c m y a : Int32} {v : Int32} : (wld (tk, tpf p q z e c m y a, bt, (T, C, rc, PF, PS, g, pp, bn, sc), b, crf, nt) u tl).set 1 (.inr (.inr (7, List.set [.ref 2, .int (nI p), .int (nI q), .int z, .int e, .int c, .int m, .int y, .int a] 5 (.int v)))) = wld (tk, tpf p q z e (v) m y a, bt, (T, C, rc, PF, PS, g, pp, bn, sc), b, crf, nt) u tl := rfl
theorem wpt_6 {tk : Int32} {bt crf nt : Nat → Int32} {T PF PS : Nat → Option Nat} {C : Nat → Nat → Int32} {rc g pp bn sc : Nat → Int32} {b : zR} {u : zU} {tl : List zC} {p q : Nat} {z e c m y a : Int32} {v : Int32} : (wld (tk, tpf p q z e c m y a, bt, (T, C, rc, PF, PS, g, pp, bn, sc), b, crf, nt) u tl).set 1 (.inr (.inr (7, List.set [.ref 2, .int (nI p), .int (nI q), .int z, .int e, .int c, .int m, .int y, .int a] 6 (.int v)))) = wld (tk, tpf p q z e c (v) y a, bt, (T, C, rc, PF, PS, g, pp, bn, sc), b, crf, nt) u tl := rfl
theorem wpt_7 {tk : Int32} {bt crf nt : Nat → Int32} {T PF PS : Nat → Option Nat} {C : Nat → Nat → Int32} {rc g pp bn sc : Nat → Int32} {b : zR} {u : zU} {tl : List zC} {p q : Nat} {z e c m y a : Int32} {v : Int32} : (wld (tk, tpf p q z e c m y a, bt, (T, C, rc, PF, PS, g, pp, bn, sc), b, crf, nt) u tl).set 1 (.inr (.inr (7, List.set [.ref 2, .int (nI p), .int (nI q), .int z, .int e, .int c, .int m, .int y, .int a] 7 (.int v)))) = wld (tk, tpf p q z e c m (v) a, bt, (T, C, rc, PF, PS, g, pp, bn, sc), b, crf, nt) u tl := rfl
theorem wpt_8 {tk : Int32} {bt crf nt : Nat → Int32} {T PF PS : Nat → Option Nat} {C : Nat → Nat → Int32} {rc g pp bn sc : Nat → Int32} {b : zR} {u : zU} {tl : List zC} {p q : Nat} {z e c m y a : Int32} {v : Int32} : (wld (tk, tpf p q z e c m y a, bt, (T, C, rc, PF, PS, g, pp, bn, sc), b, crf, nt) u tl).set 1 (.inr (.inr (7, List.set [.ref 2, .int (nI p), .int (nI q), .int z, .int e, .int c, .int m, .int y, .int a] 8 (.int v)))) = wld (tk, tpf p q z e c m y (v), bt, (T, C, rc, PF, PS, g, pp, bn, sc), b, crf, nt) u tl := rfl
set_option maxHeartbeats 400000 in
theorem r_Tap_roomLeft {tk : Int32} {bt crf nt : Nat → Int32} {T PF PS : Nat → Option Nat} {C : Nat → Nat → Int32} {rc g pp bn sc : Nat → Int32} {b : zR} {u : zU} {tl : List zC} {p q : Nat} {z e c m y a : Int32}  : Ret 0 0 0 m_Tap_roomLeft [.ref 1] (wld (tk, tpf p q z e c m y a, bt, (T, C, rc, PF, PS, g, pp, bn, sc), b, crf, nt) u tl) (some (.int (24 - nI p))) (wld (tk, tpf p q z e c m y a, bt, (T, C, rc, PF, PS, g, pp, bn, sc), b, crf, nt) u tl) := by
  refine Ret.of (n := 0) (by decide) (rfl) rfl (fun X => ?_)
  refine z_aload_n d_Tap_roomLeft_0 rfl 1 rfl ?_
  refine z_get d_Tap_roomLeft_1 4 rfl fl_Tap_9_7 wt_1 rfl ?_
  refine z_alenI d_Tap_roomLeft_4 5 rfl wc_2 24 (by decide) ?_
  refine z_aload_n d_Tap_roomLeft_5 rfl 6 rfl ?_
  refine z_get d_Tap_roomLeft_6 9 rfl fl_Tap_15_7 wt_1 rfl ?_
  refine z_isub d_Tap_roomLeft_9 10 rfl ?_
  exact z_ireturn d_Tap_roomLeft_10 (rfl) (rfl)
set_option maxHeartbeats 400000 in
theorem r_Tap_clear {tk : Int32} {bt crf nt : Nat → Int32} {T PF PS : Nat → Option Nat} {C : Nat → Nat → Int32} {rc g pp bn sc : Nat → Int32} {b : zR} {u : zU} {tl : List zC} {p q : Nat} {z e c m y a : Int32}  : Ret 0 0 0 m_Tap_clear [.ref 1] (wld (tk, tpf p q z e c m y a, bt, (T, C, rc, PF, PS, g, pp, bn, sc), b, crf, nt) u tl) (none) (wld (tk, tpf (0) q z e c m y a, bt, (T, C, rc, PF, PS, g, pp, bn, sc), b, crf, nt) u tl) := by
  refine Ret.of (n := 0) (by decide) (trivial) rfl (fun X => ?_)
  refine z_aload_n d_Tap_clear_0 rfl 1 rfl ?_
  refine z_iconst d_Tap_clear_1 0 (by decide) 2 rfl ?_
  refine z_top (.int (nI 0)) rfl ?_
  refine z_putI d_Tap_clear_2 5 rfl fp_Tap_15_7 (Or.inl rfl) wt_1 (by simp) ?_
  refine z_hp wpt_1 ?_
  exact z_return d_Tap_clear_5 rfl rfl
set_option maxHeartbeats 400000 in
theorem r_Tap_byteHere {tk : Int32} {bt crf nt : Nat → Int32} {T PF PS : Nat → Option Nat} {C : Nat → Nat → Int32} {rc g pp bn sc : Nat → Int32} {b : zR} {u : zU} {tl : List zC} {p q : Nat} {z e c m y a : Int32} (hp : p ≤ 24) (hq : q ≤ p) : Ret 0 0 0 m_Tap_byteHere [.ref 1] (wld (tk, tpf p q z e c m y a, bt, (T, C, rc, PF, PS, g, pp, bn, sc), b, crf, nt) u tl) (some (.int (sg bt p q))) (wld (tk, tpf p q z e c m y a, bt, (T, C, rc, PF, PS, g, pp, bn, sc), b, crf, nt) u tl) := by
  refine Ret.of (n := 0) (by decide) (rfl) rfl (fun X => ?_)
  refine z_aload_n d_Tap_byteHere_0 rfl 1 rfl ?_
  refine z_get d_Tap_byteHere_1 4 rfl fl_Tap_21_7 wt_1 rfl ?_
  refine z_if_lt d_Tap_byteHere_4 42 7 (by decide) rfl (fun hzz => absurd hzz (nI_pos (by omega))) (fun h1 => ?_)
  refine z_aload_n d_Tap_byteHere_7 rfl 8 rfl ?_
  refine z_get d_Tap_byteHere_8 11 rfl fl_Tap_21_7 wt_1 rfl ?_
  refine z_aload_n d_Tap_byteHere_11 rfl 12 rfl ?_
  refine z_get d_Tap_byteHere_12 15 rfl fl_Tap_15_7 wt_1 rfl ?_
  refine z_icmp_ge d_Tap_byteHere_15 42 18 (by decide) rfl (fun h2 => ?_) (fun h2 => ?_)
  · have hqp : ¬ q < p := fun h => nI_ge h (by omega) h2
    refine z_iconst d_Tap_byteHere_42 (-1) (by decide) 43 rfl ?_
    exact z_ireturn d_Tap_byteHere_43 (by simp [sg, hqp]) (rfl)
  · have hqp : q < p := Nat.lt_of_not_le (fun h => h2 (nI_le h (by omega)))
    refine z_aload_n d_Tap_byteHere_18 rfl 19 rfl ?_
    refine z_get d_Tap_byteHere_19 22 rfl fl_Tap_21_7 wt_1 rfl ?_
    refine z_aload_n d_Tap_byteHere_22 rfl 23 rfl ?_
    refine z_get d_Tap_byteHere_23 26 rfl fl_Tap_9_7 wt_1 rfl ?_
    refine z_alenI d_Tap_byteHere_26 27 rfl wc_2 24 (by decide) ?_
    refine z_icmp_ge d_Tap_byteHere_27 42 30 (by decide) rfl (fun hzz => absurd hzz (show ¬ nI 24 ≤ nI q from nI_ge (by omega) (by decide))) (fun h3 => ?_)
    refine z_aload_n d_Tap_byteHere_30 rfl 31 rfl ?_
    refine z_get d_Tap_byteHere_31 34 rfl fl_Tap_9_7 wt_1 rfl ?_
    refine z_aload_n d_Tap_byteHere_34 rfl 35 rfl ?_
    refine z_get d_Tap_byteHere_35 38 rfl fl_Tap_21_7 wt_1 rfl ?_
    refine z_iaload d_Tap_byteHere_38 (q) 39 rfl wc_2 (rfl) (by omega) (by decide) ?_
    refine z_goto d_Tap_byteHere_39 43 (by decide) ?_
    exact z_ireturn d_Tap_byteHere_43 (by simp [sg, hqp]) (rfl)
set_option maxHeartbeats 400000 in
theorem r_Tap_passes_f {tk : Int32} {bt crf nt : Nat → Int32} {T PF PS : Nat → Option Nat} {C : Nat → Nat → Int32} {rc g pp bn sc : Nat → Int32} {b : zR} {u : zU} {tl : List zC} {p q : Nat} {z e c m y a : Int32} (hp : p ≤ 24) (hq : q ≤ p) (k : Int32) (h : ¬ sg bt p q = k) : Ret 1 0 0 m_Tap_passes [.ref 1, .int k] (wld (tk, tpf p q z e c m y a, bt, (T, C, rc, PF, PS, g, pp, bn, sc), b, crf, nt) u tl) (some (.int 0)) (wld (tk, tpf p q z e c m y a, bt, (T, C, rc, PF, PS, g, pp, bn, sc), b, crf, nt) u tl) := by
  refine Ret.of (n := 0) (by decide) (rfl) rfl (fun X => ?_)
  refine z_aload_n d_Tap_passes_0 rfl 1 rfl ?_
  refine z_invv d_Tap_passes_1 4 rfl hm_Tap_byteHere lk_Tap_77 im_Tap_byteHere sl_Tap_Tap_byteHere rfl wt_1 (r_Tap_byteHere hp hq) rfl rfl (by decide) rfl rfl (Nat.le_of_ble_eq_true rfl) ?_
  refine z_iload_n d_Tap_passes_4 rfl 5 rfl ?_
  refine z_icmp_eq d_Tap_passes_5 10 8 (by decide) rfl (fun hzz => absurd hzz h) (fun h1 => ?_)
  refine z_iconst d_Tap_passes_8 0 (by decide) 9 rfl ?_
  exact z_ireturn d_Tap_passes_9 (rfl) (rfl)
set_option maxHeartbeats 400000 in
theorem r_Tap_passes_t {tk : Int32} {bt crf nt : Nat → Int32} {T PF PS : Nat → Option Nat} {C : Nat → Nat → Int32} {rc g pp bn sc : Nat → Int32} {b : zR} {u : zU} {tl : List zC} {p q : Nat} {z e c m y a : Int32} (hp : p ≤ 24) (hq : q ≤ p) (k : Int32) (h : sg bt p q = k) : Ret 1 0 0 m_Tap_passes [.ref 1, .int k] (wld (tk, tpf p q z e c m y a, bt, (T, C, rc, PF, PS, g, pp, bn, sc), b, crf, nt) u tl) (some (.int 1)) (wld (tk, tpf p (q + 1) z e c m y a, bt, (T, C, rc, PF, PS, g, pp, bn, sc), b, crf, nt) u tl) := by
  refine Ret.of (n := 0) (by decide) (rfl) rfl (fun X => ?_)
  refine z_aload_n d_Tap_passes_0 rfl 1 rfl ?_
  refine z_invv d_Tap_passes_1 4 rfl hm_Tap_byteHere lk_Tap_77 im_Tap_byteHere sl_Tap_Tap_byteHere rfl wt_1 (r_Tap_byteHere hp hq) rfl rfl (by decide) rfl rfl (Nat.le_of_ble_eq_true rfl) ?_
  refine z_iload_n d_Tap_passes_4 rfl 5 rfl ?_
  refine z_icmp_eq d_Tap_passes_5 10 8 (by decide) rfl (fun h1 => ?_) (fun hzz => absurd h hzz)
  refine z_aload_n d_Tap_passes_10 rfl 11 rfl ?_
  refine z_dup d_Tap_passes_11 rfl 12 rfl ?_
  refine z_get d_Tap_passes_12 15 rfl fl_Tap_21_7 wt_1 rfl ?_
  refine z_iconst d_Tap_passes_15 1 (by decide) 16 rfl ?_
  refine z_iadd d_Tap_passes_16 17 rfl ?_
  refine z_top (.int (nI (q + 1))) (by rw [nI_succ]) ?_
  refine z_putI d_Tap_passes_17 20 rfl fp_Tap_21_7 (Or.inl rfl) wt_1 (by simp) ?_
  refine z_hp wpt_2 ?_
  refine z_iconst d_Tap_passes_20 1 (by decide) 21 rfl ?_
  exact z_ireturn d_Tap_passes_21 (rfl) (rfl)
set_option maxHeartbeats 400000 in
theorem r_Tap_digitHere {tk : Int32} {bt crf nt : Nat → Int32} {T PF PS : Nat → Option Nat} {C : Nat → Nat → Int32} {rc g pp bn sc : Nat → Int32} {b : zR} {u : zU} {tl : List zC} {p q : Nat} {z e c m y a : Int32} (hp : p ≤ 24) (hq : q ≤ p) : Ret 1 0 0 m_Tap_digitHere [.ref 1] (wld (tk, tpf p q z e c m y a, bt, (T, C, rc, PF, PS, g, pp, bn, sc), b, crf, nt) u tl) (some (.int (zb (dg bt p q)))) (wld (tk, tpf p q z e c m y a, bt, (T, C, rc, PF, PS, g, pp, bn, sc), b, crf, nt) u tl) := by
  refine Ret.of (n := 0) (by decide) (zb_nar _) rfl (fun X => ?_)
  refine z_aload_n d_Tap_digitHere_0 rfl 1 rfl ?_
  refine z_invv d_Tap_digitHere_1 4 rfl hm_Tap_byteHere lk_Tap_77 im_Tap_byteHere sl_Tap_Tap_byteHere rfl wt_1 (r_Tap_byteHere hp hq) rfl rfl (by decide) rfl rfl (Nat.le_of_ble_eq_true rfl) ?_
  refine z_bipush d_Tap_digitHere_4 48 (by decide) 6 rfl ?_
  refine z_icmp_lt d_Tap_digitHere_6 22 9 (by decide) rfl (fun h1 => ?_) (fun h1 => ?_)
  · refine z_iconst d_Tap_digitHere_22 0 (by decide) 23 rfl ?_
    exact z_ireturn d_Tap_digitHere_23 (by simp_all [zb, dg, ← Int32.not_le]) (rfl)
  · refine z_aload_n d_Tap_digitHere_9 rfl 10 rfl ?_
    refine z_invv d_Tap_digitHere_10 13 rfl hm_Tap_byteHere lk_Tap_77 im_Tap_byteHere sl_Tap_Tap_byteHere rfl wt_1 (r_Tap_byteHere hp hq) rfl rfl (by decide) rfl rfl (Nat.le_of_ble_eq_true rfl) ?_
    refine z_bipush d_Tap_digitHere_13 57 (by decide) 15 rfl ?_
    refine z_icmp_gt d_Tap_digitHere_15 22 18 (by decide) rfl (fun h2 => ?_) (fun h2 => ?_)
    · refine z_iconst d_Tap_digitHere_22 0 (by decide) 23 rfl ?_
      exact z_ireturn d_Tap_digitHere_23 (by simp_all [zb, dg, ← Int32.not_le]) (rfl)
    · refine z_iconst d_Tap_digitHere_18 1 (by decide) 19 rfl ?_
      refine z_goto d_Tap_digitHere_19 23 (by decide) ?_
      exact z_ireturn d_Tap_digitHere_23 (by simp_all [zb, dg, ← Int32.not_le]) (rfl)
theorem l_Tap_readNumber {X : zS} {tk : Int32} {bt crf nt : Nat → Int32} {T PF PS : Nat → Option Nat} {C : Nat → Nat → Int32} {rc g pp bn sc : Nat → Int32} {b : zR} {u : zU} {tl : List zC} {p k : Nat} {z e c m y a : Int32} (hp : p ≤ 24) (hk : k ≤ 3) : ∀ (f i q : Nat) (v : Int32), i + f = k → q ≤ p → Z X m_Tap_readNumber 2 0 0 (some (.int (rnm bt p f q v).2)) (wld (tk, tpf p ((rnm bt p f q v).1) z e c m y a, bt, (T, C, rc, PF, PS, g, pp, bn, sc), b, crf, nt) u tl) 14 [some (.ref 1), some (.int (nI k)), some (.int v), some (.int (nI i))] [] (wld (tk, tpf p q z e c m y a, bt, (T, C, rc, PF, PS, g, pp, bn, sc), b, crf, nt) u tl) := by
  intro f
  induction f with
  | zero =>
    intro i q v hi hq
    have : i = k := by omega
    subst this
    refine z_iload_n d_Tap_readNumber_14 rfl 15 rfl ?_
    refine z_iload_n d_Tap_readNumber_15 rfl 16 rfl ?_
    refine z_icmp_ge d_Tap_readNumber_16 55 19 (by decide) rfl (fun h1 => ?_) (fun hzz => absurd (Int32.le_refl _) hzz)
    refine z_iload_n d_Tap_readNumber_55 rfl 56 rfl ?_
    exact z_ireturn d_Tap_readNumber_56 (rfl) (rfl)
  | succ f ih =>
    intro i q v hi hq
    refine z_iload_n d_Tap_readNumber_14 rfl 15 rfl ?_
    refine z_iload_n d_Tap_readNumber_15 rfl 16 rfl ?_
    refine z_icmp_ge d_Tap_readNumber_16 55 19 (by decide) rfl (fun hzz => absurd hzz (nI_ge (by omega) (by omega))) (fun h2 => ?_)
    refine z_aload_n d_Tap_readNumber_19 rfl 20 rfl ?_
    refine z_invv d_Tap_readNumber_20 23 rfl hm_Tap_digitHere lk_Tap_81 im_Tap_digitHere sl_Tap_Tap_digitHere rfl wt_1 (r_Tap_digitHere hp hq) rfl rfl (by decide) rfl rfl (Nat.le_of_ble_eq_true rfl) ?_
    refine z_if_eq d_Tap_readNumber_23 55 26 (by decide) rfl (fun h3 => ?_) (fun h3 => ?_)
    · have hd : dg bt p q = false := (zb_eq _).mp h3
      refine z_iload_n d_Tap_readNumber_55 rfl 56 rfl ?_
      exact z_ireturn d_Tap_readNumber_56 (by simp [rnm, hd]) (by simp [rnm, hd])
    · have hd : dg bt p q = true := (zb_ne _).mp h3
      have hql := dg_lt hd
      refine z_bipush d_Tap_readNumber_26 10 (by decide) 28 rfl ?_
      refine z_iload_n d_Tap_readNumber_28 rfl 29 rfl ?_
      refine z_imul d_Tap_readNumber_29 30 rfl ?_
      refine z_aload_n d_Tap_readNumber_30 rfl 31 rfl ?_
      refine z_invv d_Tap_readNumber_31 34 rfl hm_Tap_byteHere lk_Tap_77 im_Tap_byteHere sl_Tap_Tap_byteHere rfl wt_1 (r_Tap_byteHere hp hq) rfl rfl (by decide) rfl rfl (Nat.le_of_ble_eq_true rfl) ?_
      refine z_iadd d_Tap_readNumber_34 35 rfl ?_
      refine z_bipush d_Tap_readNumber_35 48 (by decide) 37 rfl ?_
      refine z_isub d_Tap_readNumber_37 38 rfl ?_
      refine z_istore_n d_Tap_readNumber_38 39 rfl (by decide) rfl ?_
      refine z_aload_n d_Tap_readNumber_39 rfl 40 rfl ?_
      refine z_dup d_Tap_readNumber_40 rfl 41 rfl ?_
      refine z_get d_Tap_readNumber_41 44 rfl fl_Tap_21_7 wt_1 rfl ?_
      refine z_iconst d_Tap_readNumber_44 1 (by decide) 45 rfl ?_
      refine z_iadd d_Tap_readNumber_45 46 rfl ?_
      refine z_top (.int (nI (q + 1))) (by rw [nI_succ]) ?_
      refine z_putI d_Tap_readNumber_46 49 rfl fp_Tap_21_7 (Or.inl rfl) wt_1 (by simp) ?_
      refine z_hp wpt_2 ?_
      refine z_iinc d_Tap_readNumber_49 1 (by decide) 52 rfl rfl (by decide) rfl ?_
      refine z_goto d_Tap_readNumber_52 14 (by decide) ?_
      rw [show rnm bt p (f + 1) q v = rnm bt p f (q + 1) (10 * v + sg bt p q - 48) by simp only [rnm]; rw [if_pos hd]]
      exact z_L _ (by simp [List.set, nI_succ]) (ih (i + 1) (q + 1) _ (by omega) hql)
set_option maxHeartbeats 400000 in
theorem r_Tap_readNumber_f {tk : Int32} {bt crf nt : Nat → Int32} {T PF PS : Nat → Option Nat} {C : Nat → Nat → Int32} {rc g pp bn sc : Nat → Int32} {b : zR} {u : zU} {tl : List zC} {p q : Nat} {z e c m y a : Int32} (hp : p ≤ 24) (hq : q ≤ p) (k : Nat) (hd : ¬ dg bt p q = true) : Ret 2 0 0 m_Tap_readNumber [.ref 1, .int (nI k)] (wld (tk, tpf p q z e c m y a, bt, (T, C, rc, PF, PS, g, pp, bn, sc), b, crf, nt) u tl) (some (.int (-9))) (wld (tk, tpf p q z e c m y a, bt, (T, C, rc, PF, PS, g, pp, bn, sc), b, crf, nt) u tl) := by
  refine Ret.of (n := 2) (by decide) (rfl) rfl (fun X => ?_)
  refine z_aload_n d_Tap_readNumber_0 rfl 1 rfl ?_
  refine z_invv d_Tap_readNumber_1 4 rfl hm_Tap_digitHere lk_Tap_81 im_Tap_digitHere sl_Tap_Tap_digitHere rfl wt_1 (r_Tap_digitHere hp hq) rfl rfl (by decide) rfl rfl (Nat.le_of_ble_eq_true rfl) ?_
  refine z_if_ne d_Tap_readNumber_4 10 7 (by decide) rfl (fun hzz => absurd (by rw [Bool.eq_false_iff.mpr hd]; rfl) hzz) (fun h1 => ?_)
  refine z_bipush d_Tap_readNumber_7 (-9) (by decide) 9 rfl ?_
  exact z_ireturn d_Tap_readNumber_9 (rfl) (rfl)
set_option maxHeartbeats 400000 in
theorem r_Tap_readNumber_t {tk : Int32} {bt crf nt : Nat → Int32} {T PF PS : Nat → Option Nat} {C : Nat → Nat → Int32} {rc g pp bn sc : Nat → Int32} {b : zR} {u : zU} {tl : List zC} {p q : Nat} {z e c m y a : Int32} (hp : p ≤ 24) (hq : q ≤ p) (k : Nat) (hk : k ≤ 3) (hd : dg bt p q = true) : Ret 2 0 0 m_Tap_readNumber [.ref 1, .int (nI k)] (wld (tk, tpf p q z e c m y a, bt, (T, C, rc, PF, PS, g, pp, bn, sc), b, crf, nt) u tl) (some (.int (rnm bt p k q 0).2)) (wld (tk, tpf p ((rnm bt p k q 0).1) z e c m y a, bt, (T, C, rc, PF, PS, g, pp, bn, sc), b, crf, nt) u tl) := by
  refine Ret.of (n := 2) (by decide) (rfl) rfl (fun X => ?_)
  refine z_aload_n d_Tap_readNumber_0 rfl 1 rfl ?_
  refine z_invv d_Tap_readNumber_1 4 rfl hm_Tap_digitHere lk_Tap_81 im_Tap_digitHere sl_Tap_Tap_digitHere rfl wt_1 (r_Tap_digitHere hp hq) rfl rfl (by decide) rfl rfl (Nat.le_of_ble_eq_true rfl) ?_
  refine z_if_ne d_Tap_readNumber_4 10 7 (by decide) rfl (fun h1 => ?_) (fun hzz => absurd hzz (by rw [hd]; decide))
  refine z_iconst d_Tap_readNumber_10 0 (by decide) 11 rfl ?_
  refine z_istore_n d_Tap_readNumber_11 12 rfl (by decide) rfl ?_
  refine z_iconst d_Tap_readNumber_12 0 (by decide) 13 rfl ?_
  refine z_istore_n d_Tap_readNumber_13 14 rfl (by decide) rfl ?_
  exact l_Tap_readNumber hp hk k 0 q 0 (by omega) hq
theorem dg_nat {mt : Nat → Int32} {p q : Nat} (h : dg mt p q = true) : ∃ d, d ≤ 9 ∧ sg mt p q = nI (48 + d) := by
  unfold dg at h
  rw [Bool.and_eq_true, decide_eq_true_eq, decide_eq_true_eq] at h
  have h1 := Int32.le_iff_toInt_le.mp h.1
  obtain ⟨j, hj, e⟩ := nI_of (x := sg mt p q) (fun q => by have := Int32.lt_iff_toInt_lt.mp q; simp at this h1; omega)
  rw [e] at h ⊢
  have h2 : nI 48 ≤ nI j := h.1
  have h3 : nI j ≤ nI 57 := h.2
  have h4 : 48 ≤ j := Nat.le_of_not_lt (fun q => nI_ge q (by omega) h2)
  have h5 : j ≤ 57 := Nat.le_of_not_lt (fun q => nI_ge q (by omega) h3)
  exact ⟨j - 48, by omega, by rw [show 48 + (j - 48) = j by omega]⟩
theorem rnm_nat0 {mt : Nat → Int32} {p : Nat} : ∀ (f q A : Nat), ∃ B, (rnm mt p f q (nI A)).2 = nI B ∧ B < 10 ^ f * (A + 1)
  | 0, q, A => ⟨A, rfl, by omega⟩
  | f + 1, q, A => by
    simp only [rnm]
    by_cases hd : dg mt p q = true
    · rw [if_pos hd]
      obtain ⟨d, h9, e⟩ := dg_nat hd
      have e2 : 10 * nI A + sg mt p q - 48 = nI (10 * A + d) := by
        rw [e, show (10 : Int32) = nI 10 from rfl, show (48 : Int32) = nI 48 from rfl, pk_mul, nI_add, show 10 * A + (48 + d) = (10 * A + d) + 48 by omega, ← nI_add, Int32.add_sub_cancel]
      rw [e2]
      obtain ⟨B, e3, hB⟩ := rnm_nat0 f (q + 1) (10 * A + d)
      refine ⟨B, e3, Nat.lt_of_lt_of_le hB ?_⟩
      rw [Nat.pow_succ, Nat.mul_assoc]
      exact Nat.mul_le_mul_left _ (by omega)
    · rw [if_neg hd]
      refine ⟨A, rfl, ?_⟩
      have : 1 ≤ 10 ^ (f + 1) := Nat.one_le_pow _ _ (by decide)
      calc A < A + 1 := by omega
        _ = 1 * (A + 1) := by omega
        _ ≤ _ := Nat.mul_le_mul_right _ this
theorem rnm_nat {mt : Nat → Int32} {p : Nat} (f q : Nat) : ∃ B, (rnm mt p f q 0).2 = nI B ∧ B < 10 ^ f := by
  obtain ⟨B, h1, h2⟩ := rnm_nat0 (mt := mt) (p := p) f q 0
  exact ⟨B, h1, by omega⟩
theorem rnm_n9 {mt : Nat → Int32} {p : Nat} (f q : Nat) (hf : f ≤ 3) : ¬ (rnm mt p f q 0).2 = -9 := by
  obtain ⟨B, h1, h2⟩ := rnm_nat (mt := mt) (p := p) f q
  rw [h1]
  have h3 : 10 ^ f ≤ 10 ^ 3 := Nat.pow_le_pow_right (by decide) hf
  intro q
  have := congrArg Int32.toInt q
  rw [nI_toInt (by omega)] at this
  have h9 : (-9 : Int32).toInt = -9 := by decide
  omega
