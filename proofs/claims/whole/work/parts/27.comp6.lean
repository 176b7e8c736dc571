theorem r_Lir_outside_1 {hp : List zC} (v a b : Int32) (h : v < a) : Ret 0 0 0 m_Lir_outside [.int v, .int a, .int b] hp (some (.int (-4))) hp := by
  have := r_Lir_outside (hp := hp) v a b
  rwa [if_pos h] at this
theorem r_Lir_outside_2 {hp : List zC} (v a b : Int32) (h : ¬ v < a) (h2 : b < v) : Ret 0 0 0 m_Lir_outside [.int v, .int a, .int b] hp (some (.int (-6))) hp := by
  have := r_Lir_outside (hp := hp) v a b
  rwa [if_neg h, if_pos h2] at this
theorem r_Lir_outside_3 {hp : List zC} (v a b : Int32) (h : ¬ v < a) (h2 : ¬ b < v) : Ret 0 0 0 m_Lir_outside [.int v, .int a, .int b] hp (some (.int (0))) hp := by
  have := r_Lir_outside (hp := hp) v a b
  rwa [if_neg h, if_neg h2] at this
set_option maxHeartbeats 400000 in
theorem r_Lir_exchange {hp : List zC} (o N : Nat) (f : Nat → Int32) (ho : hp[o]? = some (.inl (N, f))) (hN : N < 1000) (j : Nat) (v : Int32) (hj : j < N) : Ret 0 0 0 m_Lir_exchange [.ref o, .int (nI j), .int v] (hp) (some (.int (f j))) (hp.set o (.inl (N, upd f j v))) := by
  refine Ret.of (n := 1) (by decide) (rfl) rfl (fun X => ?_)
  refine z_iload_n d_Lir_exchange_0 rfl 1 rfl ?_
  refine z_if_lt d_Lir_exchange_1 10 4 (by decide) rfl (fun hzz => absurd hzz (nI_pos (by omega))) (fun h1 => ?_)
  refine z_iload_n d_Lir_exchange_4 rfl 5 rfl ?_
  refine z_aload_n d_Lir_exchange_5 rfl 6 rfl ?_
  refine z_alenI d_Lir_exchange_6 7 rfl ho (nI N) rfl ?_
  refine z_icmp_lt d_Lir_exchange_7 13 10 (by decide) rfl (fun h2 => ?_) (fun hzz => absurd (nI_lt hj (by omega)) hzz)
  refine z_aload_n d_Lir_exchange_13 rfl 14 rfl ?_
  refine z_iload_n d_Lir_exchange_14 rfl 15 rfl ?_
  refine z_iaload d_Lir_exchange_15 j 16 rfl ho rfl hj (by omega) ?_
  refine z_istore_n d_Lir_exchange_16 17 rfl (by decide) rfl ?_
  refine z_aload_n d_Lir_exchange_17 rfl 18 rfl ?_
  refine z_iload_n d_Lir_exchange_18 rfl 19 rfl ?_
  refine z_iload_n d_Lir_exchange_19 rfl 20 rfl ?_
  refine z_iastore d_Lir_exchange_20 j 21 rfl ho rfl hj (by omega) ?_
  refine z_iload_n d_Lir_exchange_21 rfl 22 rfl ?_
  exact z_ireturn d_Lir_exchange_22 (rfl) (rfl)
set_option maxHeartbeats 400000 in
theorem r_Lir_kind {tk : Int32} {tp bt crf nt : Nat → Int32} {T PF PS : Nat → Option Nat} {C : Nat → Nat → Int32} {rc g pp bn sc : Nat → Int32} {b : zR} {u : zU} {tl : List zC} {s : Nat → Int32} {n : Nat} (hn : sc 0 = nI n) (hn30 : n ≤ 30) (hTT : TT tl T s n) (t : Int32) : Ret 6 0 0 m_Lir_kind [.ref 0, .int t] (wld (tk, tp, bt, (T, C, rc, PF, PS, g, pp, bn, sc), b, crf, nt) u tl) (some (.int ((if inR t (sc 0) = true then kdV (s (6 + 6 * ix t + 3)) (s (6 + 6 * ix t + 4)) (s (6 + 6 * ix t + 5)) else -1)))) (wld (tk, tp, bt, (T, C, rc, PF, PS, g, pp, bn, sc), b, (if inR t (sc 0) = true then crf else rfu crf 1), nt) u tl) := by
  refine Ret.of (n := 1) (by decide) (rfl) rfl (fun X => ?_)
  refine z_aload_n d_Lir_kind_0 rfl 1 rfl ?_
  refine z_get d_Lir_kind_1 4 rfl fl_Lir_19_10 wc_0 rfl ?_
  refine z_iload_n d_Lir_kind_4 rfl 5 rfl ?_
  by_cases hv1 : inR t (sc 0) = true
  · obtain ⟨i2, hi2, rfl⟩ := inR_yes hv1 hn (by omega)
    have hci2 : (nI i2).toNatClampNeg = i2 := nI_clamp (by omega)
    obtain ⟨j3, hTj3, hjj3⟩ := hTT.1 i2 hi2
    have hPj3 : (wld (tk, tp, bt, (T, C, rc, PF, PS, g, pp, bn, sc), b, crf, nt) u tl)[51 + j3]? = some (tcell (fun k => s (6 + 6 * i2 + k))) := (wl_tl j3).trans hjj3
    refine z_invv d_Lir_kind_5 8 rfl hm_Roo_tellingAt lk_Lir_74 im_Roo_tellingAt sl_Roo_Roo_tellingAt rfl wc_3 (r_Roo_tellingAt_s hn hn30 i2 _ hi2 hTj3) rfl rfl (by decide) rfl rfl (Nat.le_of_ble_eq_true rfl) ?_
    refine z_astore_n d_Lir_kind_8 9 rfl (by decide) rfl ?_
    refine z_aload_n d_Lir_kind_9 rfl 10 rfl ?_
    refine z_ifnonnull d_Lir_kind_10 21 (by decide) ?_
    refine z_aload_n d_Lir_kind_21 rfl 22 rfl ?_
    refine z_kindN d_Lir_kind_22 25 rfl lk_Lir_98 hPj3 (by decide) (Nat.le_of_ble_eq_true rfl) ?_
    exact z_ireturn d_Lir_kind_25 (by simp_all [zb_eq, zb_ne, ← Int32.not_le]) (by simp_all [zb_eq, zb_ne, ← Int32.not_le])
  · have hv1 : inR t (sc 0) = false := by simpa using hv1
    refine z_invv d_Lir_kind_5 8 rfl hm_Roo_tellingAt lk_Lir_74 im_Roo_tellingAt sl_Roo_Roo_tellingAt rfl wc_3 (r_Roo_tellingAt_n _ hv1) rfl rfl (by decide) rfl rfl (Nat.le_of_ble_eq_true rfl) ?_
    refine z_astore_nN d_Lir_kind_8 9 rfl (by decide) rfl ?_
    refine z_aload_nN d_Lir_kind_9 rfl 10 rfl ?_
    refine z_ifnonnullN d_Lir_kind_10 13 rfl ?_
    refine z_aload_n d_Lir_kind_13 rfl 14 rfl ?_
    refine z_iconst d_Lir_kind_14 (-1) (by decide) 15 rfl ?_
    refine z_invv d_Lir_kind_15 18 rfl hm_Lir_refuse lk_Lir_37 im_Lir_refuse sl_Lir_Lir_refuse rfl wc_0 (r_Lir_refuse (-1) 1 (by decide) (by decide)) rfl rfl (by decide) rfl rfl (Nat.le_of_ble_eq_true rfl) ?_
    refine z_goto d_Lir_kind_18 25 (by decide) ?_
    exact z_ireturn d_Lir_kind_25 (by simp_all [zb_eq, zb_ne, ← Int32.not_le]) (by simp_all [zb_eq, zb_ne, ← Int32.not_le])
set_option maxHeartbeats 400000 in
theorem r_Lir_weight {tk : Int32} {tp bt crf nt : Nat → Int32} {T PF PS : Nat → Option Nat} {C : Nat → Nat → Int32} {rc g pp bn sc : Nat → Int32} {b : zR} {u : zU} {tl : List zC} {s : Nat → Int32} {n : Nat} (hn : sc 0 = nI n) (hn30 : n ≤ 30) (hTT : TT tl T s n) (t : Int32) : Ret 6 0 0 m_Lir_weight [.ref 0, .int t] (wld (tk, tp, bt, (T, C, rc, PF, PS, g, pp, bn, sc), b, crf, nt) u tl) (some (.int ((if inR t (sc 0) = true then wtC (s (6 + 6 * ix t + 1)) (s (6 + 6 * ix t + 3)) (s (6 + 6 * ix t + 4)) (s (6 + 6 * ix t + 5)) else -1)))) (wld (tk, tp, bt, (T, C, rc, PF, PS, g, pp, bn, sc), b, (if inR t (sc 0) = true then crf else rfu crf 1), nt) u tl) := by
  refine Ret.of (n := 1) (by decide) (rfl) rfl (fun X => ?_)
  refine z_aload_n d_Lir_weight_0 rfl 1 rfl ?_
  refine z_get d_Lir_weight_1 4 rfl fl_Lir_19_10 wc_0 rfl ?_
  refine z_iload_n d_Lir_weight_4 rfl 5 rfl ?_
  by_cases hv1 : inR t (sc 0) = true
  · obtain ⟨i2, hi2, rfl⟩ := inR_yes hv1 hn (by omega)
    have hci2 : (nI i2).toNatClampNeg = i2 := nI_clamp (by omega)
    obtain ⟨j3, hTj3, hjj3⟩ := hTT.1 i2 hi2
    have hPj3 : (wld (tk, tp, bt, (T, C, rc, PF, PS, g, pp, bn, sc), b, crf, nt) u tl)[51 + j3]? = some (tcell (fun k => s (6 + 6 * i2 + k))) := (wl_tl j3).trans hjj3
    refine z_invv d_Lir_weight_5 8 rfl hm_Roo_tellingAt lk_Lir_74 im_Roo_tellingAt sl_Roo_Roo_tellingAt rfl wc_3 (r_Roo_tellingAt_s hn hn30 i2 _ hi2 hTj3) rfl rfl (by decide) rfl rfl (Nat.le_of_ble_eq_true rfl) ?_
    refine z_astore_n d_Lir_weight_8 9 rfl (by decide) rfl ?_
    refine z_aload_n d_Lir_weight_9 rfl 10 rfl ?_
    refine z_ifnonnull d_Lir_weight_10 21 (by decide) ?_
    refine z_aload_n d_Lir_weight_21 rfl 22 rfl ?_
    refine z_ownW d_Lir_weight_22 25 rfl lk_Lir_101 hPj3 (by decide) (Nat.le_of_ble_eq_true rfl) ?_
    exact z_ireturn d_Lir_weight_25 (by simp_all [zb_eq, zb_ne, ← Int32.not_le]) (by simp_all [zb_eq, zb_ne, ← Int32.not_le])
  · have hv1 : inR t (sc 0) = false := by simpa using hv1
    refine z_invv d_Lir_weight_5 8 rfl hm_Roo_tellingAt lk_Lir_74 im_Roo_tellingAt sl_Roo_Roo_tellingAt rfl wc_3 (r_Roo_tellingAt_n _ hv1) rfl rfl (by decide) rfl rfl (Nat.le_of_ble_eq_true rfl) ?_
    refine z_astore_nN d_Lir_weight_8 9 rfl (by decide) rfl ?_
    refine z_aload_nN d_Lir_weight_9 rfl 10 rfl ?_
    refine z_ifnonnullN d_Lir_weight_10 13 rfl ?_
    refine z_aload_n d_Lir_weight_13 rfl 14 rfl ?_
    refine z_iconst d_Lir_weight_14 (-1) (by decide) 15 rfl ?_
    refine z_invv d_Lir_weight_15 18 rfl hm_Lir_refuse lk_Lir_37 im_Lir_refuse sl_Lir_Lir_refuse rfl wc_0 (r_Lir_refuse (-1) 1 (by decide) (by decide)) rfl rfl (by decide) rfl rfl (Nat.le_of_ble_eq_true rfl) ?_
    refine z_goto d_Lir_weight_18 25 (by decide) ?_
    exact z_ireturn d_Lir_weight_25 (by simp_all [zb_eq, zb_ne, ← Int32.not_le]) (by simp_all [zb_eq, zb_ne, ← Int32.not_le])
