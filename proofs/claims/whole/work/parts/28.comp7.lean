set_option maxHeartbeats 400000 in
theorem r_Lir_tellingOf_n {tk : Int32} {tp bt crf nt : Nat → Int32} {T PF PS : Nat → Option Nat} {C : Nat → Nat → Int32} {rc g pp bn sc : Nat → Int32} {b : zR} {u : zU} {tl : List zC} {s : Nat → Int32} {n : Nat} (hn : sc 0 = nI n) (hn30 : n ≤ 30) (hTT : TT tl T s n) (t w : Int32) (hv : inR t (sc 0) = false) : Ret 6 0 0 m_Lir_tellingOf [.ref 0, .int t, .int w] (wld (tk, tp, bt, (T, C, rc, PF, PS, g, pp, bn, sc), b, crf, nt) u tl) (some (.int (-1))) (wld (tk, tp, bt, (T, C, rc, PF, PS, g, pp, bn, sc), b, rfu crf 1, nt) u tl) := by
  refine Ret.of (n := 1) (by decide) (rfl) rfl (fun X => ?_)
  refine z_aload_n d_Lir_tellingOf_0 rfl 1 rfl ?_
  refine z_get d_Lir_tellingOf_1 4 rfl fl_Lir_19_10 wc_0 rfl ?_
  refine z_iload_n d_Lir_tellingOf_4 rfl 5 rfl ?_
  refine z_invv d_Lir_tellingOf_5 8 rfl hm_Roo_tellingAt lk_Lir_74 im_Roo_tellingAt sl_Roo_Roo_tellingAt rfl wc_3 (r_Roo_tellingAt_n t hv) rfl rfl (by decide) rfl rfl (Nat.le_of_ble_eq_true rfl) ?_
  refine z_astore_nN d_Lir_tellingOf_8 9 rfl (by decide) rfl ?_
  refine z_aload_nN d_Lir_tellingOf_9 rfl 10 rfl ?_
  refine z_ifnonnullN d_Lir_tellingOf_10 13 rfl ?_
  refine z_aload_n d_Lir_tellingOf_13 rfl 14 rfl ?_
  refine z_iconst d_Lir_tellingOf_14 (-1) (by decide) 15 rfl ?_
  refine z_invv d_Lir_tellingOf_15 18 rfl hm_Lir_refuse lk_Lir_37 im_Lir_refuse sl_Lir_Lir_refuse rfl wc_0 (r_Lir_refuse (-1) 1 (by decide) (by decide)) rfl rfl (by decide) rfl rfl (Nat.le_of_ble_eq_true rfl) ?_
  exact z_ireturn d_Lir_tellingOf_18 (rfl) (rfl)
set_option maxHeartbeats 400000 in
theorem r_Lir_tellingOf_0 {tk : Int32} {tp bt crf nt : Nat → Int32} {T PF PS : Nat → Option Nat} {C : Nat → Nat → Int32} {rc g pp bn sc : Nat → Int32} {b : zR} {u : zU} {tl : List zC} {s : Nat → Int32} {n : Nat} (hn : sc 0 = nI n) (hn30 : n ≤ 30) (hTT : TT tl T s n) (i : Nat) (hi : i < n) : Ret 6 0 0 m_Lir_tellingOf [.ref 0, .int (nI i), .int 0] (wld (tk, tp, bt, (T, C, rc, PF, PS, g, pp, bn, sc), b, crf, nt) u tl) (some (.int (s (6 + 6 * i + 0)))) (wld (tk, tp, bt, (T, C, rc, PF, PS, g, pp, bn, sc), b, crf, nt) u tl) := by
  refine Ret.of (n := 1) (by decide) (rfl) rfl (fun X => ?_)
  refine z_aload_n d_Lir_tellingOf_0 rfl 1 rfl ?_
  refine z_get d_Lir_tellingOf_1 4 rfl fl_Lir_19_10 wc_0 rfl ?_
  refine z_iload_n d_Lir_tellingOf_4 rfl 5 rfl ?_
  obtain ⟨j1, hTj1, hjj1⟩ := hTT.1 i hi
  have hPj1 : (wld (tk, tp, bt, (T, C, rc, PF, PS, g, pp, bn, sc), b, crf, nt) u tl)[51 + j1]? = some (tcell (fun k => s (6 + 6 * i + k))) := (wl_tl j1).trans hjj1
  refine z_invv d_Lir_tellingOf_5 8 rfl hm_Roo_tellingAt lk_Lir_74 im_Roo_tellingAt sl_Roo_Roo_tellingAt rfl wc_3 (r_Roo_tellingAt_s hn hn30 i _ hi hTj1) rfl rfl (by decide) rfl rfl (Nat.le_of_ble_eq_true rfl) ?_
  refine z_astore_n d_Lir_tellingOf_8 9 rfl (by decide) rfl ?_
  refine z_aload_n d_Lir_tellingOf_9 rfl 10 rfl ?_
  refine z_ifnonnull d_Lir_tellingOf_10 19 (by decide) ?_
  refine z_iload_n d_Lir_tellingOf_19 rfl 20 rfl ?_
  refine z_tabIn (off := 40) d_Lir_tellingOf_20 60 (by decide) (by decide) (by decide) (by decide) ?_
  refine z_aload_n d_Lir_tellingOf_60 rfl 61 rfl ?_
  refine z_get d_Lir_tellingOf_61 64 rfl (flT_Lir_78 (kci_mem _)) hPj1 rfl ?_
  exact z_ireturn d_Lir_tellingOf_64 (rfl) (rfl)
set_option maxHeartbeats 400000 in
theorem r_Lir_tellingOf_1 {tk : Int32} {tp bt crf nt : Nat → Int32} {T PF PS : Nat → Option Nat} {C : Nat → Nat → Int32} {rc g pp bn sc : Nat → Int32} {b : zR} {u : zU} {tl : List zC} {s : Nat → Int32} {n : Nat} (hn : sc 0 = nI n) (hn30 : n ≤ 30) (hTT : TT tl T s n) (i : Nat) (hi : i < n) : Ret 6 0 0 m_Lir_tellingOf [.ref 0, .int (nI i), .int 1] (wld (tk, tp, bt, (T, C, rc, PF, PS, g, pp, bn, sc), b, crf, nt) u tl) (some (.int (s (6 + 6 * i + 1)))) (wld (tk, tp, bt, (T, C, rc, PF, PS, g, pp, bn, sc), b, crf, nt) u tl) := by
  refine Ret.of (n := 1) (by decide) (rfl) rfl (fun X => ?_)
  refine z_aload_n d_Lir_tellingOf_0 rfl 1 rfl ?_
  refine z_get d_Lir_tellingOf_1 4 rfl fl_Lir_19_10 wc_0 rfl ?_
  refine z_iload_n d_Lir_tellingOf_4 rfl 5 rfl ?_
  obtain ⟨j1, hTj1, hjj1⟩ := hTT.1 i hi
  have hPj1 : (wld (tk, tp, bt, (T, C, rc, PF, PS, g, pp, bn, sc), b, crf, nt) u tl)[51 + j1]? = some (tcell (fun k => s (6 + 6 * i + k))) := (wl_tl j1).trans hjj1
  refine z_invv d_Lir_tellingOf_5 8 rfl hm_Roo_tellingAt lk_Lir_74 im_Roo_tellingAt sl_Roo_Roo_tellingAt rfl wc_3 (r_Roo_tellingAt_s hn hn30 i _ hi hTj1) rfl rfl (by decide) rfl rfl (Nat.le_of_ble_eq_true rfl) ?_
  refine z_astore_n d_Lir_tellingOf_8 9 rfl (by decide) rfl ?_
  refine z_aload_n d_Lir_tellingOf_9 rfl 10 rfl ?_
  refine z_ifnonnull d_Lir_tellingOf_10 19 (by decide) ?_
  refine z_iload_n d_Lir_tellingOf_19 rfl 20 rfl ?_
  refine z_tabIn (off := 45) d_Lir_tellingOf_20 65 (by decide) (by decide) (by decide) (by decide) ?_
  refine z_aload_n d_Lir_tellingOf_65 rfl 66 rfl ?_
  refine z_get d_Lir_tellingOf_66 69 rfl (flT_Lir_83 (kci_mem _)) hPj1 rfl ?_
  exact z_ireturn d_Lir_tellingOf_69 (rfl) (rfl)
set_option maxHeartbeats 400000 in
theorem r_Lir_tellingOf_2 {tk : Int32} {tp bt crf nt : Nat → Int32} {T PF PS : Nat → Option Nat} {C : Nat → Nat → Int32} {rc g pp bn sc : Nat → Int32} {b : zR} {u : zU} {tl : List zC} {s : Nat → Int32} {n : Nat} (hn : sc 0 = nI n) (hn30 : n ≤ 30) (hTT : TT tl T s n) (i : Nat) (hi : i < n) : Ret 6 0 0 m_Lir_tellingOf [.ref 0, .int (nI i), .int 2] (wld (tk, tp, bt, (T, C, rc, PF, PS, g, pp, bn, sc), b, crf, nt) u tl) (some (.int (s (6 + 6 * i + 2)))) (wld (tk, tp, bt, (T, C, rc, PF, PS, g, pp, bn, sc), b, crf, nt) u tl) := by
  refine Ret.of (n := 1) (by decide) (rfl) rfl (fun X => ?_)
  refine z_aload_n d_Lir_tellingOf_0 rfl 1 rfl ?_
  refine z_get d_Lir_tellingOf_1 4 rfl fl_Lir_19_10 wc_0 rfl ?_
  refine z_iload_n d_Lir_tellingOf_4 rfl 5 rfl ?_
  obtain ⟨j1, hTj1, hjj1⟩ := hTT.1 i hi
  have hPj1 : (wld (tk, tp, bt, (T, C, rc, PF, PS, g, pp, bn, sc), b, crf, nt) u tl)[51 + j1]? = some (tcell (fun k => s (6 + 6 * i + k))) := (wl_tl j1).trans hjj1
  refine z_invv d_Lir_tellingOf_5 8 rfl hm_Roo_tellingAt lk_Lir_74 im_Roo_tellingAt sl_Roo_Roo_tellingAt rfl wc_3 (r_Roo_tellingAt_s hn hn30 i _ hi hTj1) rfl rfl (by decide) rfl rfl (Nat.le_of_ble_eq_true rfl) ?_
  refine z_astore_n d_Lir_tellingOf_8 9 rfl (by decide) rfl ?_
  refine z_aload_n d_Lir_tellingOf_9 rfl 10 rfl ?_
  refine z_ifnonnull d_Lir_tellingOf_10 19 (by decide) ?_
  refine z_iload_n d_Lir_tellingOf_19 rfl 20 rfl ?_
  refine z_tabIn (off := 50) d_Lir_tellingOf_20 70 (by decide) (by decide) (by decide) (by decide) ?_
  refine z_aload_n d_Lir_tellingOf_70 rfl 71 rfl ?_
  refine z_get d_Lir_tellingOf_71 74 rfl (flT_Lir_86 (kci_mem _)) hPj1 rfl ?_
  exact z_ireturn d_Lir_tellingOf_74 (rfl) (rfl)
set_option maxHeartbeats 400000 in
theorem r_Lir_tellingOf_3 {tk : Int32} {tp bt crf nt : Nat → Int32} {T PF PS : Nat → Option Nat} {C : Nat → Nat → Int32} {rc g pp bn sc : Nat → Int32} {b : zR} {u : zU} {tl : List zC} {s : Nat → Int32} {n : Nat} (hn : sc 0 = nI n) (hn30 : n ≤ 30) (hTT : TT tl T s n) (i : Nat) (hi : i < n) : Ret 6 0 0 m_Lir_tellingOf [.ref 0, .int (nI i), .int 3] (wld (tk, tp, bt, (T, C, rc, PF, PS, g, pp, bn, sc), b, crf, nt) u tl) (some (.int (s (6 + 6 * i + 3)))) (wld (tk, tp, bt, (T, C, rc, PF, PS, g, pp, bn, sc), b, crf, nt) u tl) := by
  refine Ret.of (n := 1) (by decide) (rfl) rfl (fun X => ?_)
  refine z_aload_n d_Lir_tellingOf_0 rfl 1 rfl ?_
  refine z_get d_Lir_tellingOf_1 4 rfl fl_Lir_19_10 wc_0 rfl ?_
  refine z_iload_n d_Lir_tellingOf_4 rfl 5 rfl ?_
  obtain ⟨j1, hTj1, hjj1⟩ := hTT.1 i hi
  have hPj1 : (wld (tk, tp, bt, (T, C, rc, PF, PS, g, pp, bn, sc), b, crf, nt) u tl)[51 + j1]? = some (tcell (fun k => s (6 + 6 * i + k))) := (wl_tl j1).trans hjj1
  refine z_invv d_Lir_tellingOf_5 8 rfl hm_Roo_tellingAt lk_Lir_74 im_Roo_tellingAt sl_Roo_Roo_tellingAt rfl wc_3 (r_Roo_tellingAt_s hn hn30 i _ hi hTj1) rfl rfl (by decide) rfl rfl (Nat.le_of_ble_eq_true rfl) ?_
  refine z_astore_n d_Lir_tellingOf_8 9 rfl (by decide) rfl ?_
  refine z_aload_n d_Lir_tellingOf_9 rfl 10 rfl ?_
  refine z_ifnonnull d_Lir_tellingOf_10 19 (by decide) ?_
  refine z_iload_n d_Lir_tellingOf_19 rfl 20 rfl ?_
  refine z_tabIn (off := 55) d_Lir_tellingOf_20 75 (by decide) (by decide) (by decide) (by decide) ?_
  refine z_aload_n d_Lir_tellingOf_75 rfl 76 rfl ?_
  refine z_get d_Lir_tellingOf_76 79 rfl (flT_Lir_89 (kci_mem _)) hPj1 rfl ?_
  exact z_ireturn d_Lir_tellingOf_79 (rfl) (rfl)
set_option maxHeartbeats 400000 in
theorem r_Lir_tellingOf_4 {tk : Int32} {tp bt crf nt : Nat → Int32} {T PF PS : Nat → Option Nat} {C : Nat → Nat → Int32} {rc g pp bn sc : Nat → Int32} {b : zR} {u : zU} {tl : List zC} {s : Nat → Int32} {n : Nat} (hn : sc 0 = nI n) (hn30 : n ≤ 30) (hTT : TT tl T s n) (i : Nat) (hi : i < n) : Ret 6 0 0 m_Lir_tellingOf [.ref 0, .int (nI i), .int 4] (wld (tk, tp, bt, (T, C, rc, PF, PS, g, pp, bn, sc), b, crf, nt) u tl) (some (.int (s (6 + 6 * i + 4)))) (wld (tk, tp, bt, (T, C, rc, PF, PS, g, pp, bn, sc), b, crf, nt) u tl) := by
  refine Ret.of (n := 1) (by decide) (rfl) rfl (fun X => ?_)
  refine z_aload_n d_Lir_tellingOf_0 rfl 1 rfl ?_
  refine z_get d_Lir_tellingOf_1 4 rfl fl_Lir_19_10 wc_0 rfl ?_
  refine z_iload_n d_Lir_tellingOf_4 rfl 5 rfl ?_
  obtain ⟨j1, hTj1, hjj1⟩ := hTT.1 i hi
  have hPj1 : (wld (tk, tp, bt, (T, C, rc, PF, PS, g, pp, bn, sc), b, crf, nt) u tl)[51 + j1]? = some (tcell (fun k => s (6 + 6 * i + k))) := (wl_tl j1).trans hjj1
  refine z_invv d_Lir_tellingOf_5 8 rfl hm_Roo_tellingAt lk_Lir_74 im_Roo_tellingAt sl_Roo_Roo_tellingAt rfl wc_3 (r_Roo_tellingAt_s hn hn30 i _ hi hTj1) rfl rfl (by decide) rfl rfl (Nat.le_of_ble_eq_true rfl) ?_
  refine z_astore_n d_Lir_tellingOf_8 9 rfl (by decide) rfl ?_
  refine z_aload_n d_Lir_tellingOf_9 rfl 10 rfl ?_
  refine z_ifnonnull d_Lir_tellingOf_10 19 (by decide) ?_
  refine z_iload_n d_Lir_tellingOf_19 rfl 20 rfl ?_
  refine z_tabIn (off := 60) d_Lir_tellingOf_20 80 (by decide) (by decide) (by decide) (by decide) ?_
  refine z_aload_n d_Lir_tellingOf_80 rfl 81 rfl ?_
  refine z_get d_Lir_tellingOf_81 84 rfl (flT_Lir_92 (kci_mem _)) hPj1 rfl ?_
  exact z_ireturn d_Lir_tellingOf_84 (rfl) (rfl)
set_option maxHeartbeats 400000 in
theorem r_Lir_tellingOf_5 {tk : Int32} {tp bt crf nt : Nat → Int32} {T PF PS : Nat → Option Nat} {C : Nat → Nat → Int32} {rc g pp bn sc : Nat → Int32} {b : zR} {u : zU} {tl : List zC} {s : Nat → Int32} {n : Nat} (hn : sc 0 = nI n) (hn30 : n ≤ 30) (hTT : TT tl T s n) (i : Nat) (hi : i < n) : Ret 6 0 0 m_Lir_tellingOf [.ref 0, .int (nI i), .int 5] (wld (tk, tp, bt, (T, C, rc, PF, PS, g, pp, bn, sc), b, crf, nt) u tl) (some (.int (if s (6 + 6 * i + 5) = 0 then 0 else 1))) (wld (tk, tp, bt, (T, C, rc, PF, PS, g, pp, bn, sc), b, crf, nt) u tl) := by
  refine Ret.of (n := 1) (by decide) (rfl) rfl (fun X => ?_)
  refine z_aload_n d_Lir_tellingOf_0 rfl 1 rfl ?_
  refine z_get d_Lir_tellingOf_1 4 rfl fl_Lir_19_10 wc_0 rfl ?_
  refine z_iload_n d_Lir_tellingOf_4 rfl 5 rfl ?_
  obtain ⟨j1, hTj1, hjj1⟩ := hTT.1 i hi
  have hPj1 : (wld (tk, tp, bt, (T, C, rc, PF, PS, g, pp, bn, sc), b, crf, nt) u tl)[51 + j1]? = some (tcell (fun k => s (6 + 6 * i + k))) := (wl_tl j1).trans hjj1
  refine z_invv d_Lir_tellingOf_5 8 rfl hm_Roo_tellingAt lk_Lir_74 im_Roo_tellingAt sl_Roo_Roo_tellingAt rfl wc_3 (r_Roo_tellingAt_s hn hn30 i _ hi hTj1) rfl rfl (by decide) rfl rfl (Nat.le_of_ble_eq_true rfl) ?_
  refine z_astore_n d_Lir_tellingOf_8 9 rfl (by decide) rfl ?_
  refine z_aload_n d_Lir_tellingOf_9 rfl 10 rfl ?_
  refine z_ifnonnull d_Lir_tellingOf_10 19 (by decide) ?_
  refine z_iload_n d_Lir_tellingOf_19 rfl 20 rfl ?_
  refine z_tabIn (off := 65) d_Lir_tellingOf_20 85 (by decide) (by decide) (by decide) (by decide) ?_
  refine z_aload_n d_Lir_tellingOf_85 rfl 86 rfl ?_
  refine z_get d_Lir_tellingOf_86 89 rfl (flT_Lir_95 (kci_mem _)) hPj1 rfl ?_
  refine z_if_eq d_Lir_tellingOf_89 96 92 (by decide) rfl (fun h2 => ?_) (fun h2 => ?_)
  · refine z_iconst d_Lir_tellingOf_96 0 (by decide) 97 rfl ?_
    exact z_ireturn d_Lir_tellingOf_97 (by simp [*]) (rfl)
  · refine z_iconst d_Lir_tellingOf_92 1 (by decide) 93 rfl ?_
    refine z_goto d_Lir_tellingOf_93 97 (by decide) ?_
    exact z_ireturn d_Lir_tellingOf_97 (by simp [*]) (rfl)
set_option maxHeartbeats 400000 in
theorem r_Lir_tellingOf_o {tk : Int32} {tp bt crf nt : Nat → Int32} {T PF PS : Nat → Option Nat} {C : Nat → Nat → Int32} {rc g pp bn sc : Nat → Int32} {b : zR} {u : zU} {tl : List zC} {s : Nat → Int32} {n : Nat} (hn : sc 0 = nI n) (hn30 : n ≤ 30) (hTT : TT tl T s n) (i : Nat) (hi : i < n) (w : Int32) (hw : w.toInt < 0 ∨ 5 < w.toInt) : Ret 6 0 0 m_Lir_tellingOf [.ref 0, .int (nI i), .int w] (wld (tk, tp, bt, (T, C, rc, PF, PS, g, pp, bn, sc), b, crf, nt) u tl) (some (.int (-2))) (wld (tk, tp, bt, (T, C, rc, PF, PS, g, pp, bn, sc), b, rfu crf 2, nt) u tl) := by
  refine Ret.of (n := 1) (by decide) (rfl) rfl (fun X => ?_)
  refine z_aload_n d_Lir_tellingOf_0 rfl 1 rfl ?_
  refine z_get d_Lir_tellingOf_1 4 rfl fl_Lir_19_10 wc_0 rfl ?_
  refine z_iload_n d_Lir_tellingOf_4 rfl 5 rfl ?_
  obtain ⟨j1, hTj1, hjj1⟩ := hTT.1 i hi
  have hPj1 : (wld (tk, tp, bt, (T, C, rc, PF, PS, g, pp, bn, sc), b, crf, nt) u tl)[51 + j1]? = some (tcell (fun k => s (6 + 6 * i + k))) := (wl_tl j1).trans hjj1
  refine z_invv d_Lir_tellingOf_5 8 rfl hm_Roo_tellingAt lk_Lir_74 im_Roo_tellingAt sl_Roo_Roo_tellingAt rfl wc_3 (r_Roo_tellingAt_s hn hn30 i _ hi hTj1) rfl rfl (by decide) rfl rfl (Nat.le_of_ble_eq_true rfl) ?_
  refine z_astore_n d_Lir_tellingOf_8 9 rfl (by decide) rfl ?_
  refine z_aload_n d_Lir_tellingOf_9 rfl 10 rfl ?_
  refine z_ifnonnull d_Lir_tellingOf_10 19 (by decide) ?_
  refine z_iload_n d_Lir_tellingOf_19 rfl 20 rfl ?_
  refine z_tabOut d_Lir_tellingOf_20 98 hw (by decide) ?_
  refine z_aload_n d_Lir_tellingOf_98 rfl 99 rfl ?_
  refine z_bipush d_Lir_tellingOf_99 (-2) (by decide) 101 rfl ?_
  refine z_invv d_Lir_tellingOf_101 104 rfl hm_Lir_refuse lk_Lir_37 im_Lir_refuse sl_Lir_Lir_refuse rfl wc_0 (r_Lir_refuse (-2) 2 (by decide) (by decide)) rfl rfl (by decide) rfl rfl (Nat.le_of_ble_eq_true rfl) ?_
  exact z_ireturn d_Lir_tellingOf_104 (rfl) (rfl)
theorem lt_of_le1 {a : Int32} {m : Nat} (h : a ≤ nI m) (hm : m < 2 ^ 30 := by decide) : a < nI (m + 1) := by
  rw [Int32.lt_iff_toInt_lt, nI_toInt (by omega)]
  have := Int32.le_iff_toInt_le.mp h
  rw [nI_toInt (by omega)] at this
  omega
set_option maxHeartbeats 400000 in
theorem r_Lir_law {tk : Int32} {tp bt crf nt : Nat → Int32} {T PF PS : Nat → Option Nat} {C : Nat → Nat → Int32} {rc g pp bn sc : Nat → Int32} {b : zR} {u : zU} {tl : List zC}  (l w v : Int32) : Ret 6 0 0 m_Lir_law [.ref 0, .int l, .int w, .int v] (wld (tk, tp, bt, (T, C, rc, PF, PS, g, pp, bn, sc), b, crf, nt) u tl) (some (.int ((if inR l 6 = true then (if inR w 7 = true then (if v < 0 then -4 else (if (if w < 4 then 999 else 255) < v then -6 else C (ix l) (ix w))) else -2) else -1)))) (wld (tk, tp, bt, (T, (if inR l 6 = true then (if inR w 7 = true then (if v < 0 then C else (if (if w < 4 then 999 else 255) < v then C else (fun i => if i = ix l then upd (C (ix l)) (ix w) v else C i))) else C) else C), rc, PF, PS, g, pp, bn, sc), b, (if inR l 6 = true then (if inR w 7 = true then (if v < 0 then rfu crf 4 else (if (if w < 4 then 999 else 255) < v then rfu crf 6 else crf)) else rfu crf 2) else rfu crf 1), nt) u tl) := by
  refine Ret.of (n := 3) (by decide) (rfl) rfl (fun X => ?_)
  refine z_aload_n d_Lir_law_0 rfl 1 rfl ?_
  refine z_get d_Lir_law_1 4 rfl fl_Lir_19_10 wc_0 rfl ?_
  refine z_iload_n d_Lir_law_4 rfl 5 rfl ?_
  by_cases hv1 : inR l 6 = true
  · obtain ⟨i2, hi2, rfl⟩ := inR_yes (n := 6) hv1 rfl (by decide)
    have hci2 : (nI i2).toNatClampNeg = i2 := nI_clamp (by omega)
    refine z_invv d_Lir_law_5 8 rfl hm_Roo_lawAt lk_Lir_104 im_Roo_lawAt sl_Roo_Roo_lawAt rfl wc_3 (r_Roo_lawAt_s i2 hi2) rfl rfl (by decide) rfl rfl (Nat.le_of_ble_eq_true rfl) ?_
    refine z_astore d_Lir_law_8 10 rfl (by decide) rfl ?_
    refine z_aload d_Lir_law_10 rfl 12 rfl ?_
    refine z_ifnonnull d_Lir_law_12 21 (by decide) ?_
    refine z_iload_n d_Lir_law_21 rfl 22 rfl ?_
    refine z_if_lt d_Lir_law_22 31 25 (by decide) rfl (fun h3 => ?_) (fun h3 => ?_)
    · have hr0 : inR w 7 = false := decide_eq_false (fun q => absurd q.1 (Int32.not_le.mpr h3))
      refine z_aload_n d_Lir_law_31 rfl 32 rfl ?_
      refine z_bipush d_Lir_law_32 (-2) (by decide) 34 rfl ?_
      refine z_invv d_Lir_law_34 37 rfl hm_Lir_refuse lk_Lir_37 im_Lir_refuse sl_Lir_Lir_refuse rfl wc_0 (r_Lir_refuse (-2) 2 (by decide) (by decide)) rfl rfl (by decide) rfl rfl (Nat.le_of_ble_eq_true rfl) ?_
      exact z_ireturn d_Lir_law_37 (by simp_all [zb_eq, zb_ne, ← Int32.not_le]) (by simp_all [zb_eq, zb_ne, ← Int32.not_le])
    · refine z_iload_n d_Lir_law_25 rfl 26 rfl ?_
      refine z_bipush d_Lir_law_26 7 (by decide) 28 rfl ?_
      refine z_icmp_lt d_Lir_law_28 38 31 (by decide) rfl (fun h4 => ?_) (fun h4 => ?_)
      · have hri5 : inR w 7 = true := decide_eq_true ⟨Int32.not_lt.mp h3, h4⟩
        obtain ⟨i5, hi5, rfl⟩ := inR_yes (n := 7) hri5 rfl (by decide)
        have hci5 : (nI i5).toNatClampNeg = i5 := nI_clamp (by omega)
        refine z_iload_n d_Lir_law_38 rfl 39 rfl ?_
        refine z_iconst d_Lir_law_39 4 (by decide) 40 rfl ?_
        refine z_icmp_ge d_Lir_law_40 49 43 (by decide) rfl (fun h6 => ?_) (fun h6 => ?_)
        · refine z_sipush d_Lir_law_49 255 (by decide) 52 rfl ?_
          refine z_istore d_Lir_law_52 54 rfl (by decide) rfl ?_
          refine z_iload_n d_Lir_law_54 rfl 55 rfl ?_
          refine z_iconst d_Lir_law_55 0 (by decide) 56 rfl ?_
          refine z_iload d_Lir_law_56 rfl 58 rfl ?_
          rcases wi_cases (v) (0) (255) with hw | ⟨hw, hv⟩ | ⟨hw, hv⟩
          · refine z_invs d_Lir_law_58 61 rfl hm_Lir_outside lk_Lir_108 st_Lir_outside (r_Lir_outside_1 _ _ _ hw) rfl rfl (by decide) rfl rfl (Nat.le_of_ble_eq_true rfl) ?_
            refine z_istore d_Lir_law_61 63 rfl (by decide) rfl ?_
            refine z_iload d_Lir_law_63 rfl 65 rfl ?_
            refine z_if_eq d_Lir_law_65 77 68 (by decide) rfl (fun hzz => absurd hzz (by decide)) (fun h7 => ?_)
            refine z_aload_n d_Lir_law_68 rfl 69 rfl ?_
            refine z_iload d_Lir_law_69 rfl 71 rfl ?_
            refine z_invv d_Lir_law_71 74 rfl hm_Lir_refuse lk_Lir_37 im_Lir_refuse sl_Lir_Lir_refuse rfl wc_0 (r_Lir_refuse (-4) 4 (by decide) (by decide)) rfl rfl (by decide) rfl rfl (Nat.le_of_ble_eq_true rfl) ?_
            refine z_goto d_Lir_law_74 87 (by decide) ?_
            exact z_ireturn d_Lir_law_87 (by simp_all [zb_eq, zb_ne, ← Int32.not_le]) (by simp_all [zb_eq, zb_ne, ← Int32.not_le])
          · refine z_invs d_Lir_law_58 61 rfl hm_Lir_outside lk_Lir_108 st_Lir_outside (r_Lir_outside_2 _ _ _ hw hv) rfl rfl (by decide) rfl rfl (Nat.le_of_ble_eq_true rfl) ?_
            refine z_istore d_Lir_law_61 63 rfl (by decide) rfl ?_
            refine z_iload d_Lir_law_63 rfl 65 rfl ?_
            refine z_if_eq d_Lir_law_65 77 68 (by decide) rfl (fun hzz => absurd hzz (by decide)) (fun h8 => ?_)
            refine z_aload_n d_Lir_law_68 rfl 69 rfl ?_
            refine z_iload d_Lir_law_69 rfl 71 rfl ?_
            refine z_invv d_Lir_law_71 74 rfl hm_Lir_refuse lk_Lir_37 im_Lir_refuse sl_Lir_Lir_refuse rfl wc_0 (r_Lir_refuse (-6) 6 (by decide) (by decide)) rfl rfl (by decide) rfl rfl (Nat.le_of_ble_eq_true rfl) ?_
            refine z_goto d_Lir_law_74 87 (by decide) ?_
            exact z_ireturn d_Lir_law_87 (by simp_all [zb_eq, zb_ne, ← Int32.not_le]) (by simp_all [zb_eq, zb_ne, ← Int32.not_le])
          · refine z_invs d_Lir_law_58 61 rfl hm_Lir_outside lk_Lir_108 st_Lir_outside (r_Lir_outside_3 _ _ _ hw hv) rfl rfl (by decide) rfl rfl (Nat.le_of_ble_eq_true rfl) ?_
            refine z_istore d_Lir_law_61 63 rfl (by decide) rfl ?_
            refine z_iload d_Lir_law_63 rfl 65 rfl ?_
            refine z_if_eq d_Lir_law_65 77 68 (by decide) rfl (fun h9 => ?_) (fun hzz => absurd (by decide) hzz)
            refine z_aload d_Lir_law_77 rfl 79 rfl ?_
            refine z_get d_Lir_law_79 82 rfl fl_Lir_112_4 (wc_law hi2) rfl ?_
            refine z_iload_n d_Lir_law_82 rfl 83 rfl ?_
            refine z_iload_n d_Lir_law_83 rfl 84 rfl ?_
            refine z_invs d_Lir_law_84 87 rfl hm_Lir_exchange lk_Lir_117 st_Lir_exchange (r_Lir_exchange _ _ _ (wc_cond hi2) (by decide) (i5) _ (by omega)) rfl rfl (by decide) rfl rfl (Nat.le_of_ble_eq_true rfl) ?_
            refine z_hp (ws_cond3 hi2) ?_
            exact z_ireturn d_Lir_law_87 (by simp_all [zb_eq, zb_ne, ← Int32.not_le]) (by simp_all [zb_eq, zb_ne, ← Int32.not_le])
        · refine z_sipush d_Lir_law_43 999 (by decide) 46 rfl ?_
          refine z_goto d_Lir_law_46 52 (by decide) ?_
          refine z_istore d_Lir_law_52 54 rfl (by decide) rfl ?_
          refine z_iload_n d_Lir_law_54 rfl 55 rfl ?_
          refine z_iconst d_Lir_law_55 0 (by decide) 56 rfl ?_
          refine z_iload d_Lir_law_56 rfl 58 rfl ?_
          rcases wi_cases (v) (0) (999) with hw | ⟨hw, hv⟩ | ⟨hw, hv⟩
          · refine z_invs d_Lir_law_58 61 rfl hm_Lir_outside lk_Lir_108 st_Lir_outside (r_Lir_outside_1 _ _ _ hw) rfl rfl (by decide) rfl rfl (Nat.le_of_ble_eq_true rfl) ?_
            refine z_istore d_Lir_law_61 63 rfl (by decide) rfl ?_
            refine z_iload d_Lir_law_63 rfl 65 rfl ?_
            refine z_if_eq d_Lir_law_65 77 68 (by decide) rfl (fun hzz => absurd hzz (by decide)) (fun h10 => ?_)
            refine z_aload_n d_Lir_law_68 rfl 69 rfl ?_
            refine z_iload d_Lir_law_69 rfl 71 rfl ?_
            refine z_invv d_Lir_law_71 74 rfl hm_Lir_refuse lk_Lir_37 im_Lir_refuse sl_Lir_Lir_refuse rfl wc_0 (r_Lir_refuse (-4) 4 (by decide) (by decide)) rfl rfl (by decide) rfl rfl (Nat.le_of_ble_eq_true rfl) ?_
            refine z_goto d_Lir_law_74 87 (by decide) ?_
            exact z_ireturn d_Lir_law_87 (by simp_all [zb_eq, zb_ne, ← Int32.not_le]) (by simp_all [zb_eq, zb_ne, ← Int32.not_le])
          · refine z_invs d_Lir_law_58 61 rfl hm_Lir_outside lk_Lir_108 st_Lir_outside (r_Lir_outside_2 _ _ _ hw hv) rfl rfl (by decide) rfl rfl (Nat.le_of_ble_eq_true rfl) ?_
            refine z_istore d_Lir_law_61 63 rfl (by decide) rfl ?_
            refine z_iload d_Lir_law_63 rfl 65 rfl ?_
            refine z_if_eq d_Lir_law_65 77 68 (by decide) rfl (fun hzz => absurd hzz (by decide)) (fun h11 => ?_)
            refine z_aload_n d_Lir_law_68 rfl 69 rfl ?_
            refine z_iload d_Lir_law_69 rfl 71 rfl ?_
            refine z_invv d_Lir_law_71 74 rfl hm_Lir_refuse lk_Lir_37 im_Lir_refuse sl_Lir_Lir_refuse rfl wc_0 (r_Lir_refuse (-6) 6 (by decide) (by decide)) rfl rfl (by decide) rfl rfl (Nat.le_of_ble_eq_true rfl) ?_
            refine z_goto d_Lir_law_74 87 (by decide) ?_
            exact z_ireturn d_Lir_law_87 (by simp_all [zb_eq, zb_ne, ← Int32.not_le]) (by simp_all [zb_eq, zb_ne, ← Int32.not_le])
          · refine z_invs d_Lir_law_58 61 rfl hm_Lir_outside lk_Lir_108 st_Lir_outside (r_Lir_outside_3 _ _ _ hw hv) rfl rfl (by decide) rfl rfl (Nat.le_of_ble_eq_true rfl) ?_
            refine z_istore d_Lir_law_61 63 rfl (by decide) rfl ?_
            refine z_iload d_Lir_law_63 rfl 65 rfl ?_
            refine z_if_eq d_Lir_law_65 77 68 (by decide) rfl (fun h12 => ?_) (fun hzz => absurd (by decide) hzz)
            refine z_aload d_Lir_law_77 rfl 79 rfl ?_
            refine z_get d_Lir_law_79 82 rfl fl_Lir_112_4 (wc_law hi2) rfl ?_
            refine z_iload_n d_Lir_law_82 rfl 83 rfl ?_
            refine z_iload_n d_Lir_law_83 rfl 84 rfl ?_
            refine z_invs d_Lir_law_84 87 rfl hm_Lir_exchange lk_Lir_117 st_Lir_exchange (r_Lir_exchange _ _ _ (wc_cond hi2) (by decide) (i5) _ (by omega)) rfl rfl (by decide) rfl rfl (Nat.le_of_ble_eq_true rfl) ?_
            refine z_hp (ws_cond3 hi2) ?_
            exact z_ireturn d_Lir_law_87 (by simp_all [zb_eq, zb_ne, ← Int32.not_le]) (by simp_all [zb_eq, zb_ne, ← Int32.not_le])
      · have hr0 : inR w 7 = false := decide_eq_false (fun q => h4 q.2)
        refine z_aload_n d_Lir_law_31 rfl 32 rfl ?_
        refine z_bipush d_Lir_law_32 (-2) (by decide) 34 rfl ?_
        refine z_invv d_Lir_law_34 37 rfl hm_Lir_refuse lk_Lir_37 im_Lir_refuse sl_Lir_Lir_refuse rfl wc_0 (r_Lir_refuse (-2) 2 (by decide) (by decide)) rfl rfl (by decide) rfl rfl (Nat.le_of_ble_eq_true rfl) ?_
        exact z_ireturn d_Lir_law_37 (by simp_all [zb_eq, zb_ne, ← Int32.not_le]) (by simp_all [zb_eq, zb_ne, ← Int32.not_le])
  · have hv1 : inR l 6 = false := by simpa using hv1
    refine z_invv d_Lir_law_5 8 rfl hm_Roo_lawAt lk_Lir_104 im_Roo_lawAt sl_Roo_Roo_lawAt rfl wc_3 (r_Roo_lawAt_n _ hv1) rfl rfl (by decide) rfl rfl (Nat.le_of_ble_eq_true rfl) ?_
    refine z_astoreN d_Lir_law_8 10 rfl (by decide) rfl ?_
    refine z_aloadN d_Lir_law_10 rfl 12 rfl ?_
    refine z_ifnonnullN d_Lir_law_12 15 rfl ?_
    refine z_aload_n d_Lir_law_15 rfl 16 rfl ?_
    refine z_iconst d_Lir_law_16 (-1) (by decide) 17 rfl ?_
    refine z_invv d_Lir_law_17 20 rfl hm_Lir_refuse lk_Lir_37 im_Lir_refuse sl_Lir_Lir_refuse rfl wc_0 (r_Lir_refuse (-1) 1 (by decide) (by decide)) rfl rfl (by decide) rfl rfl (Nat.le_of_ble_eq_true rfl) ?_
    exact z_ireturn d_Lir_law_20 (by simp_all [zb_eq, zb_ne, ← Int32.not_le]) (by simp_all [zb_eq, zb_ne, ← Int32.not_le])
set_option maxHeartbeats 400000 in
theorem r_Lir_right {tk : Int32} {tp bt crf nt : Nat → Int32} {T PF PS : Nat → Option Nat} {C : Nat → Nat → Int32} {rc g pp bn sc : Nat → Int32} {b : zR} {u : zU} {tl : List zC}  (b0 : Int32) (hb : b0 = 0 ∨ b0 = 1) : Ret 6 0 0 m_Lir_right [.ref 0, .int b0] (wld (tk, tp, bt, (T, C, rc, PF, PS, g, pp, bn, sc), b, crf, nt) u tl) (some (.int ((if sc 3 = b0 then 0 else 1)))) (wld (tk, tp, bt, (T, C, rc, PF, PS, g, pp, bn, (if sc 3 = b0 then sc else upd sc 3 b0)), b, crf, nt) u tl) := by
  refine Ret.of (n := 0) (by decide) (rfl) rfl (fun X => ?_)
  refine z_aload_n d_Lir_right_0 rfl 1 rfl ?_
  refine z_get d_Lir_right_1 4 rfl fl_Lir_19_10 wc_0 rfl ?_
  refine z_get d_Lir_right_4 7 rfl fl_Lir_121_6 wc_3 rfl ?_
  refine z_iload_n d_Lir_right_7 rfl 8 rfl ?_
  refine z_icmp_ne d_Lir_right_8 13 11 (by decide) rfl (fun h1 => ?_) (fun h1 => ?_)
  · refine z_aload_n d_Lir_right_13 rfl 14 rfl ?_
    refine z_get d_Lir_right_14 17 rfl fl_Lir_19_10 wc_0 rfl ?_
    refine z_iload_n d_Lir_right_17 rfl 18 rfl ?_
    refine z_put d_Lir_right_18 21 rfl fp_Lir_121_6 (Or.inl rfl) wc_3 (fun _ _ => by rcases hb with rfl | rfl <;> rfl) (fun _ _ => by rcases hb with rfl | rfl <;> rfl) (by simp) ?_
    refine z_hp wp_3_10 ?_
    refine z_iconst d_Lir_right_21 1 (by decide) 22 rfl ?_
    exact z_ireturn d_Lir_right_22 (by simp_all [zb_eq, zb_ne, ← Int32.not_le]) (by simp_all [zb_eq, zb_ne, ← Int32.not_le])
  · refine z_iconst d_Lir_right_11 0 (by decide) 12 rfl ?_
    exact z_ireturn d_Lir_right_12 (by simp_all [zb_eq, zb_ne, ← Int32.not_le]) (by simp_all [zb_eq, zb_ne, ← Int32.not_le])
set_option maxHeartbeats 400000 in
theorem r_Lir_growth {tk : Int32} {tp bt crf nt : Nat → Int32} {T PF PS : Nat → Option Nat} {C : Nat → Nat → Int32} {rc g pp bn sc : Nat → Int32} {b : zR} {u : zU} {tl : List zC}  (w v : Int32) : Ret 6 0 0 m_Lir_growth [.ref 0, .int w, .int v] (wld (tk, tp, bt, (T, C, rc, PF, PS, g, pp, bn, sc), b, crf, nt) u tl) (some (.int ((if inR w 2 = true then (if v < 0 then -4 else (if 50 < v then -6 else g (ix w))) else -2)))) (wld (tk, tp, bt, (T, C, rc, PF, PS, (if inR w 2 = true then (if v < 0 then g else (if 50 < v then g else upd g (ix w) v)) else g), pp, bn, sc), b, (if inR w 2 = true then (if v < 0 then rfu crf 4 else (if 50 < v then rfu crf 6 else crf)) else rfu crf 2), nt) u tl) := by
  refine Ret.of (n := 1) (by decide) (rfl) rfl (fun X => ?_)
  refine z_iload_n d_Lir_growth_0 rfl 1 rfl ?_
  refine z_invs d_Lir_growth_1 4 rfl hm_Lir_isSizeOrSeconds lk_Lir_124 st_Lir_isSizeOrSeconds (r_Lir_isSizeOrSeconds _) rfl rfl (by decide) rfl rfl (Nat.le_of_ble_eq_true rfl) ?_
  refine z_if_ne d_Lir_growth_4 14 7 (by decide) rfl (fun h1 => ?_) (fun h1 => ?_)
  · obtain ⟨i2, hi2, rfl⟩ := vld h1 (n := 2) rfl (by decide)
    have hci2 : (nI i2).toNatClampNeg = i2 := nI_clamp (by omega)
    refine z_iload_n d_Lir_growth_14 rfl 15 rfl ?_
    refine z_iconst d_Lir_growth_15 0 (by decide) 16 rfl ?_
    refine z_bipush d_Lir_growth_16 50 (by decide) 18 rfl ?_
    rcases wi_cases (v) (0) (50) with hw | ⟨hw, hv⟩ | ⟨hw, hv⟩
    · refine z_invs d_Lir_growth_18 21 rfl hm_Lir_outside lk_Lir_108 st_Lir_outside (r_Lir_outside_1 _ _ _ hw) rfl rfl (by decide) rfl rfl (Nat.le_of_ble_eq_true rfl) ?_
      refine z_istore_n d_Lir_growth_21 22 rfl (by decide) rfl ?_
      refine z_iload_n d_Lir_growth_22 rfl 23 rfl ?_
      refine z_if_eq d_Lir_growth_23 34 26 (by decide) rfl (fun hzz => absurd hzz (by decide)) (fun h3 => ?_)
      refine z_aload_n d_Lir_growth_26 rfl 27 rfl ?_
      refine z_iload_n d_Lir_growth_27 rfl 28 rfl ?_
      refine z_invv d_Lir_growth_28 31 rfl hm_Lir_refuse lk_Lir_37 im_Lir_refuse sl_Lir_Lir_refuse rfl wc_0 (r_Lir_refuse (-4) 4 (by decide) (by decide)) rfl rfl (by decide) rfl rfl (Nat.le_of_ble_eq_true rfl) ?_
      refine z_goto d_Lir_growth_31 46 (by decide) ?_
      exact z_ireturn d_Lir_growth_46 (by simp_all [zb_eq, zb_ne, ← Int32.not_le]) (by simp_all [zb_eq, zb_ne, ← Int32.not_le])
    · refine z_invs d_Lir_growth_18 21 rfl hm_Lir_outside lk_Lir_108 st_Lir_outside (r_Lir_outside_2 _ _ _ hw hv) rfl rfl (by decide) rfl rfl (Nat.le_of_ble_eq_true rfl) ?_
      refine z_istore_n d_Lir_growth_21 22 rfl (by decide) rfl ?_
      refine z_iload_n d_Lir_growth_22 rfl 23 rfl ?_
      refine z_if_eq d_Lir_growth_23 34 26 (by decide) rfl (fun hzz => absurd hzz (by decide)) (fun h4 => ?_)
      refine z_aload_n d_Lir_growth_26 rfl 27 rfl ?_
      refine z_iload_n d_Lir_growth_27 rfl 28 rfl ?_
      refine z_invv d_Lir_growth_28 31 rfl hm_Lir_refuse lk_Lir_37 im_Lir_refuse sl_Lir_Lir_refuse rfl wc_0 (r_Lir_refuse (-6) 6 (by decide) (by decide)) rfl rfl (by decide) rfl rfl (Nat.le_of_ble_eq_true rfl) ?_
      refine z_goto d_Lir_growth_31 46 (by decide) ?_
      exact z_ireturn d_Lir_growth_46 (by simp_all [zb_eq, zb_ne, ← Int32.not_le]) (by simp_all [zb_eq, zb_ne, ← Int32.not_le])
    · refine z_invs d_Lir_growth_18 21 rfl hm_Lir_outside lk_Lir_108 st_Lir_outside (r_Lir_outside_3 _ _ _ hw hv) rfl rfl (by decide) rfl rfl (Nat.le_of_ble_eq_true rfl) ?_
      refine z_istore_n d_Lir_growth_21 22 rfl (by decide) rfl ?_
      refine z_iload_n d_Lir_growth_22 rfl 23 rfl ?_
      refine z_if_eq d_Lir_growth_23 34 26 (by decide) rfl (fun h5 => ?_) (fun hzz => absurd (by decide) hzz)
      refine z_aload_n d_Lir_growth_34 rfl 35 rfl ?_
      refine z_get d_Lir_growth_35 38 rfl fl_Lir_19_10 wc_0 rfl ?_
      refine z_get d_Lir_growth_38 41 rfl fl_Lir_128_6 wc_3 rfl ?_
      refine z_iload_n d_Lir_growth_41 rfl 42 rfl ?_
      refine z_iload_n d_Lir_growth_42 rfl 43 rfl ?_
      refine z_invs d_Lir_growth_43 46 rfl hm_Lir_exchange lk_Lir_117 st_Lir_exchange (r_Lir_exchange _ _ _ wc_20 (by decide) (i2) _ (by omega)) rfl rfl (by decide) rfl rfl (Nat.le_of_ble_eq_true rfl) ?_
      refine z_hp ws_20 ?_
      exact z_ireturn d_Lir_growth_46 (by simp_all [zb_eq, zb_ne, ← Int32.not_le]) (by simp_all [zb_eq, zb_ne, ← Int32.not_le])
  · refine z_aload_n d_Lir_growth_7 rfl 8 rfl ?_
    refine z_bipush d_Lir_growth_8 (-2) (by decide) 10 rfl ?_
    refine z_invv d_Lir_growth_10 13 rfl hm_Lir_refuse lk_Lir_37 im_Lir_refuse sl_Lir_Lir_refuse rfl wc_0 (r_Lir_refuse (-2) 2 (by decide) (by decide)) rfl rfl (by decide) rfl rfl (Nat.le_of_ble_eq_true rfl) ?_
    exact z_ireturn d_Lir_growth_13 (by simp_all [zb_eq, zb_ne, ← Int32.not_le]) (by simp_all [zb_eq, zb_ne, ← Int32.not_le])
set_option maxHeartbeats 400000 in
theorem r_Lir_people {tk : Int32} {tp bt crf nt : Nat → Int32} {T PF PS : Nat → Option Nat} {C : Nat → Nat → Int32} {rc g pp bn sc : Nat → Int32} {b : zR} {u : zU} {tl : List zC}  (r v : Int32) : Ret 6 0 0 m_Lir_people [.ref 0, .int r, .int v] (wld (tk, tp, bt, (T, C, rc, PF, PS, g, pp, bn, sc), b, crf, nt) u tl) (some (.int ((if inR r 10 = true then (if v < 0 then -4 else (if 999 < v then -6 else pp (ix r))) else -1)))) (wld (tk, tp, bt, (T, C, rc, PF, PS, g, (if inR r 10 = true then (if v < 0 then pp else (if 999 < v then pp else upd pp (ix r) v)) else pp), bn, sc), b, (if inR r 10 = true then (if v < 0 then rfu crf 4 else (if 999 < v then rfu crf 6 else crf)) else rfu crf 1), nt) u tl) := by
  refine Ret.of (n := 1) (by decide) (rfl) rfl (fun X => ?_)
  refine z_iload_n d_Lir_people_0 rfl 1 rfl ?_
  refine z_if_lt d_Lir_people_1 10 4 (by decide) rfl (fun h1 => ?_) (fun h1 => ?_)
  · have hr0 : inR r 10 = false := decide_eq_false (fun q => absurd q.1 (Int32.not_le.mpr h1))
    refine z_aload_n d_Lir_people_10 rfl 11 rfl ?_
    refine z_iconst d_Lir_people_11 (-1) (by decide) 12 rfl ?_
    refine z_invv d_Lir_people_12 15 rfl hm_Lir_refuse lk_Lir_37 im_Lir_refuse sl_Lir_Lir_refuse rfl wc_0 (r_Lir_refuse (-1) 1 (by decide) (by decide)) rfl rfl (by decide) rfl rfl (Nat.le_of_ble_eq_true rfl) ?_
    exact z_ireturn d_Lir_people_15 (by simp_all [zb_eq, zb_ne, ← Int32.not_le]) (by simp_all [zb_eq, zb_ne, ← Int32.not_le])
  · refine z_iload_n d_Lir_people_4 rfl 5 rfl ?_
    refine z_bipush d_Lir_people_5 10 (by decide) 7 rfl ?_
    refine z_icmp_lt d_Lir_people_7 16 10 (by decide) rfl (fun h2 => ?_) (fun h2 => ?_)
    · have hri3 : inR r 10 = true := decide_eq_true ⟨Int32.not_lt.mp h1, h2⟩
      obtain ⟨i3, hi3, rfl⟩ := inR_yes (n := 10) hri3 rfl (by decide)
      have hci3 : (nI i3).toNatClampNeg = i3 := nI_clamp (by omega)
      refine z_iload_n d_Lir_people_16 rfl 17 rfl ?_
      refine z_iconst d_Lir_people_17 0 (by decide) 18 rfl ?_
      refine z_sipush d_Lir_people_18 999 (by decide) 21 rfl ?_
      rcases wi_cases (v) (0) (999) with hw | ⟨hw, hv⟩ | ⟨hw, hv⟩
      · refine z_invs d_Lir_people_21 24 rfl hm_Lir_outside lk_Lir_108 st_Lir_outside (r_Lir_outside_1 _ _ _ hw) rfl rfl (by decide) rfl rfl (Nat.le_of_ble_eq_true rfl) ?_
        refine z_istore_n d_Lir_people_24 25 rfl (by decide) rfl ?_
        refine z_iload_n d_Lir_people_25 rfl 26 rfl ?_
        refine z_if_eq d_Lir_people_26 37 29 (by decide) rfl (fun hzz => absurd hzz (by decide)) (fun h4 => ?_)
        refine z_aload_n d_Lir_people_29 rfl 30 rfl ?_
        refine z_iload_n d_Lir_people_30 rfl 31 rfl ?_
        refine z_invv d_Lir_people_31 34 rfl hm_Lir_refuse lk_Lir_37 im_Lir_refuse sl_Lir_Lir_refuse rfl wc_0 (r_Lir_refuse (-4) 4 (by decide) (by decide)) rfl rfl (by decide) rfl rfl (Nat.le_of_ble_eq_true rfl) ?_
        refine z_goto d_Lir_people_34 49 (by decide) ?_
        exact z_ireturn d_Lir_people_49 (by simp_all [zb_eq, zb_ne, ← Int32.not_le]) (by simp_all [zb_eq, zb_ne, ← Int32.not_le])
      · refine z_invs d_Lir_people_21 24 rfl hm_Lir_outside lk_Lir_108 st_Lir_outside (r_Lir_outside_2 _ _ _ hw hv) rfl rfl (by decide) rfl rfl (Nat.le_of_ble_eq_true rfl) ?_
        refine z_istore_n d_Lir_people_24 25 rfl (by decide) rfl ?_
        refine z_iload_n d_Lir_people_25 rfl 26 rfl ?_
        refine z_if_eq d_Lir_people_26 37 29 (by decide) rfl (fun hzz => absurd hzz (by decide)) (fun h5 => ?_)
        refine z_aload_n d_Lir_people_29 rfl 30 rfl ?_
        refine z_iload_n d_Lir_people_30 rfl 31 rfl ?_
        refine z_invv d_Lir_people_31 34 rfl hm_Lir_refuse lk_Lir_37 im_Lir_refuse sl_Lir_Lir_refuse rfl wc_0 (r_Lir_refuse (-6) 6 (by decide) (by decide)) rfl rfl (by decide) rfl rfl (Nat.le_of_ble_eq_true rfl) ?_
        refine z_goto d_Lir_people_34 49 (by decide) ?_
        exact z_ireturn d_Lir_people_49 (by simp_all [zb_eq, zb_ne, ← Int32.not_le]) (by simp_all [zb_eq, zb_ne, ← Int32.not_le])
      · refine z_invs d_Lir_people_21 24 rfl hm_Lir_outside lk_Lir_108 st_Lir_outside (r_Lir_outside_3 _ _ _ hw hv) rfl rfl (by decide) rfl rfl (Nat.le_of_ble_eq_true rfl) ?_
        refine z_istore_n d_Lir_people_24 25 rfl (by decide) rfl ?_
        refine z_iload_n d_Lir_people_25 rfl 26 rfl ?_
        refine z_if_eq d_Lir_people_26 37 29 (by decide) rfl (fun h6 => ?_) (fun hzz => absurd (by decide) hzz)
        refine z_aload_n d_Lir_people_37 rfl 38 rfl ?_
        refine z_get d_Lir_people_38 41 rfl fl_Lir_19_10 wc_0 rfl ?_
        refine z_get d_Lir_people_41 44 rfl fl_Lir_213_6 wc_3 rfl ?_
        refine z_iload_n d_Lir_people_44 rfl 45 rfl ?_
        refine z_iload_n d_Lir_people_45 rfl 46 rfl ?_
        refine z_invs d_Lir_people_46 49 rfl hm_Lir_exchange lk_Lir_117 st_Lir_exchange (r_Lir_exchange _ _ _ wc_21 (by decide) (i3) _ (by omega)) rfl rfl (by decide) rfl rfl (Nat.le_of_ble_eq_true rfl) ?_
        refine z_hp ws_21 ?_
        exact z_ireturn d_Lir_people_49 (by simp_all [zb_eq, zb_ne, ← Int32.not_le]) (by simp_all [zb_eq, zb_ne, ← Int32.not_le])
    · have hr0 : inR r 10 = false := decide_eq_false (fun q => h2 q.2)
      refine z_aload_n d_Lir_people_10 rfl 11 rfl ?_
      refine z_iconst d_Lir_people_11 (-1) (by decide) 12 rfl ?_
      refine z_invv d_Lir_people_12 15 rfl hm_Lir_refuse lk_Lir_37 im_Lir_refuse sl_Lir_Lir_refuse rfl wc_0 (r_Lir_refuse (-1) 1 (by decide) (by decide)) rfl rfl (by decide) rfl rfl (Nat.le_of_ble_eq_true rfl) ?_
      exact z_ireturn d_Lir_people_15 (by simp_all [zb_eq, zb_ne, ← Int32.not_le]) (by simp_all [zb_eq, zb_ne, ← Int32.not_le])
set_option maxHeartbeats 400000 in
theorem r_Lir_strokes {tk : Int32} {tp bt crf nt : Nat → Int32} {T PF PS : Nat → Option Nat} {C : Nat → Nat → Int32} {rc g pp bn sc : Nat → Int32} {b : zR} {u : zU} {tl : List zC}  (v : Int32) : Ret 6 0 0 m_Lir_strokes [.ref 0, .int v] (wld (tk, tp, bt, (T, C, rc, PF, PS, g, pp, bn, sc), b, crf, nt) u tl) (some (.int ((if v < 0 then -4 else (if 99 < v then -6 else sc 2))))) (wld (tk, tp, bt, (T, C, rc, PF, PS, g, pp, bn, (if v < 0 then sc else (if 99 < v then sc else upd sc 2 v))), b, (if v < 0 then rfu crf 4 else (if 99 < v then rfu crf 6 else crf)), nt) u tl) := by
  refine Ret.of (n := 2) (by decide) (rfl) rfl (fun X => ?_)
  refine z_iload_n d_Lir_strokes_0 rfl 1 rfl ?_
  refine z_iconst d_Lir_strokes_1 0 (by decide) 2 rfl ?_
  refine z_bipush d_Lir_strokes_2 99 (by decide) 4 rfl ?_
  rcases wi_cases (v) (0) (99) with hw | ⟨hw, hv⟩ | ⟨hw, hv⟩
  · refine z_invs d_Lir_strokes_4 7 rfl hm_Lir_outside lk_Lir_108 st_Lir_outside (r_Lir_outside_1 _ _ _ hw) rfl rfl (by decide) rfl rfl (Nat.le_of_ble_eq_true rfl) ?_
    refine z_istore_n d_Lir_strokes_7 8 rfl (by decide) rfl ?_
    refine z_iload_n d_Lir_strokes_8 rfl 9 rfl ?_
    refine z_if_eq d_Lir_strokes_9 18 12 (by decide) rfl (fun hzz => absurd hzz (by decide)) (fun h1 => ?_)
    refine z_aload_n d_Lir_strokes_12 rfl 13 rfl ?_
    refine z_iload_n d_Lir_strokes_13 rfl 14 rfl ?_
    refine z_invv d_Lir_strokes_14 17 rfl hm_Lir_refuse lk_Lir_37 im_Lir_refuse sl_Lir_Lir_refuse rfl wc_0 (r_Lir_refuse (-4) 4 (by decide) (by decide)) rfl rfl (by decide) rfl rfl (Nat.le_of_ble_eq_true rfl) ?_
    exact z_ireturn d_Lir_strokes_17 (by simp_all [zb_eq, zb_ne, ← Int32.not_le]) (by simp_all [zb_eq, zb_ne, ← Int32.not_le])
  · refine z_invs d_Lir_strokes_4 7 rfl hm_Lir_outside lk_Lir_108 st_Lir_outside (r_Lir_outside_2 _ _ _ hw hv) rfl rfl (by decide) rfl rfl (Nat.le_of_ble_eq_true rfl) ?_
    refine z_istore_n d_Lir_strokes_7 8 rfl (by decide) rfl ?_
    refine z_iload_n d_Lir_strokes_8 rfl 9 rfl ?_
    refine z_if_eq d_Lir_strokes_9 18 12 (by decide) rfl (fun hzz => absurd hzz (by decide)) (fun h2 => ?_)
    refine z_aload_n d_Lir_strokes_12 rfl 13 rfl ?_
    refine z_iload_n d_Lir_strokes_13 rfl 14 rfl ?_
    refine z_invv d_Lir_strokes_14 17 rfl hm_Lir_refuse lk_Lir_37 im_Lir_refuse sl_Lir_Lir_refuse rfl wc_0 (r_Lir_refuse (-6) 6 (by decide) (by decide)) rfl rfl (by decide) rfl rfl (Nat.le_of_ble_eq_true rfl) ?_
    exact z_ireturn d_Lir_strokes_17 (by simp_all [zb_eq, zb_ne, ← Int32.not_le]) (by simp_all [zb_eq, zb_ne, ← Int32.not_le])
  · refine z_invs d_Lir_strokes_4 7 rfl hm_Lir_outside lk_Lir_108 st_Lir_outside (r_Lir_outside_3 _ _ _ hw hv) rfl rfl (by decide) rfl rfl (Nat.le_of_ble_eq_true rfl) ?_
    refine z_istore_n d_Lir_strokes_7 8 rfl (by decide) rfl ?_
    refine z_iload_n d_Lir_strokes_8 rfl 9 rfl ?_
    refine z_if_eq d_Lir_strokes_9 18 12 (by decide) rfl (fun h3 => ?_) (fun hzz => absurd (by decide) hzz)
    refine z_aload_n d_Lir_strokes_18 rfl 19 rfl ?_
    refine z_get d_Lir_strokes_19 22 rfl fl_Lir_19_10 wc_0 rfl ?_
    refine z_get d_Lir_strokes_22 25 rfl fl_Lir_216_6 wc_3 rfl ?_
    refine z_istore_n d_Lir_strokes_25 26 rfl (by decide) rfl ?_
    refine z_aload_n d_Lir_strokes_26 rfl 27 rfl ?_
    refine z_get d_Lir_strokes_27 30 rfl fl_Lir_19_10 wc_0 rfl ?_
    refine z_iload_n d_Lir_strokes_30 rfl 31 rfl ?_
    refine z_putI d_Lir_strokes_31 34 rfl fp_Lir_216_6 (Or.inl rfl) wc_3 (by simp) ?_
    refine z_hp wp_3_9 ?_
    refine z_iload_n d_Lir_strokes_34 rfl 35 rfl ?_
    exact z_ireturn d_Lir_strokes_35 (by simp_all [zb_eq, zb_ne, ← Int32.not_le]) (by simp_all [zb_eq, zb_ne, ← Int32.not_le])
set_option maxHeartbeats 400000 in
theorem r_Lir_reach {tk : Int32} {tp bt crf nt : Nat → Int32} {T PF PS : Nat → Option Nat} {C : Nat → Nat → Int32} {rc g pp bn sc : Nat → Int32} {b : zR} {u : zU} {tl : List zC}  (l v : Int32) : Ret 6 0 0 m_Lir_reach [.ref 0, .int l, .int v] (wld (tk, tp, bt, (T, C, rc, PF, PS, g, pp, bn, sc), b, crf, nt) u tl) (some (.int ((if inR l 6 = true then (if v < 0 then -4 else (if 10 < v then -6 else rc (ix l))) else -1)))) (wld (tk, tp, bt, (T, C, (if inR l 6 = true then (if v < 0 then rc else (if 10 < v then rc else upd rc (ix l) v)) else rc), PF, PS, g, pp, bn, sc), b, (if inR l 6 = true then (if v < 0 then rfu crf 4 else (if 10 < v then rfu crf 6 else crf)) else rfu crf 1), nt) u tl) := by
  refine Ret.of (n := 3) (by decide) (rfl) rfl (fun X => ?_)
  refine z_aload_n d_Lir_reach_0 rfl 1 rfl ?_
  refine z_get d_Lir_reach_1 4 rfl fl_Lir_19_10 wc_0 rfl ?_
  refine z_iload_n d_Lir_reach_4 rfl 5 rfl ?_
  by_cases hv1 : inR l 6 = true
  · obtain ⟨i2, hi2, rfl⟩ := inR_yes (n := 6) hv1 rfl (by decide)
    have hci2 : (nI i2).toNatClampNeg = i2 := nI_clamp (by omega)
    refine z_invv d_Lir_reach_5 8 rfl hm_Roo_lawAt lk_Lir_104 im_Roo_lawAt sl_Roo_Roo_lawAt rfl wc_3 (r_Roo_lawAt_s i2 hi2) rfl rfl (by decide) rfl rfl (Nat.le_of_ble_eq_true rfl) ?_
    refine z_astore_n d_Lir_reach_8 9 rfl (by decide) rfl ?_
    refine z_aload_n d_Lir_reach_9 rfl 10 rfl ?_
    refine z_ifnonnull d_Lir_reach_10 19 (by decide) ?_
    refine z_iload_n d_Lir_reach_19 rfl 20 rfl ?_
    refine z_iconst d_Lir_reach_20 0 (by decide) 21 rfl ?_
    refine z_bipush d_Lir_reach_21 10 (by decide) 23 rfl ?_
    rcases wi_cases (v) (0) (10) with hw | ⟨hw, hv⟩ | ⟨hw, hv⟩
    · refine z_invs d_Lir_reach_23 26 rfl hm_Lir_outside lk_Lir_108 st_Lir_outside (r_Lir_outside_1 _ _ _ hw) rfl rfl (by decide) rfl rfl (Nat.le_of_ble_eq_true rfl) ?_
      refine z_istore d_Lir_reach_26 28 rfl (by decide) rfl ?_
      refine z_iload d_Lir_reach_28 rfl 30 rfl ?_
      refine z_if_eq d_Lir_reach_30 40 33 (by decide) rfl (fun hzz => absurd hzz (by decide)) (fun h3 => ?_)
      refine z_aload_n d_Lir_reach_33 rfl 34 rfl ?_
      refine z_iload d_Lir_reach_34 rfl 36 rfl ?_
      refine z_invv d_Lir_reach_36 39 rfl hm_Lir_refuse lk_Lir_37 im_Lir_refuse sl_Lir_Lir_refuse rfl wc_0 (r_Lir_refuse (-4) 4 (by decide) (by decide)) rfl rfl (by decide) rfl rfl (Nat.le_of_ble_eq_true rfl) ?_
      exact z_ireturn d_Lir_reach_39 (by simp_all [zb_eq, zb_ne, ← Int32.not_le]) (by simp_all [zb_eq, zb_ne, ← Int32.not_le])
    · refine z_invs d_Lir_reach_23 26 rfl hm_Lir_outside lk_Lir_108 st_Lir_outside (r_Lir_outside_2 _ _ _ hw hv) rfl rfl (by decide) rfl rfl (Nat.le_of_ble_eq_true rfl) ?_
      refine z_istore d_Lir_reach_26 28 rfl (by decide) rfl ?_
      refine z_iload d_Lir_reach_28 rfl 30 rfl ?_
      refine z_if_eq d_Lir_reach_30 40 33 (by decide) rfl (fun hzz => absurd hzz (by decide)) (fun h4 => ?_)
      refine z_aload_n d_Lir_reach_33 rfl 34 rfl ?_
      refine z_iload d_Lir_reach_34 rfl 36 rfl ?_
      refine z_invv d_Lir_reach_36 39 rfl hm_Lir_refuse lk_Lir_37 im_Lir_refuse sl_Lir_Lir_refuse rfl wc_0 (r_Lir_refuse (-6) 6 (by decide) (by decide)) rfl rfl (by decide) rfl rfl (Nat.le_of_ble_eq_true rfl) ?_
      exact z_ireturn d_Lir_reach_39 (by simp_all [zb_eq, zb_ne, ← Int32.not_le]) (by simp_all [zb_eq, zb_ne, ← Int32.not_le])
    · refine z_invs d_Lir_reach_23 26 rfl hm_Lir_outside lk_Lir_108 st_Lir_outside (r_Lir_outside_3 _ _ _ hw hv) rfl rfl (by decide) rfl rfl (Nat.le_of_ble_eq_true rfl) ?_
      refine z_istore d_Lir_reach_26 28 rfl (by decide) rfl ?_
      refine z_iload d_Lir_reach_28 rfl 30 rfl ?_
      refine z_if_eq d_Lir_reach_30 40 33 (by decide) rfl (fun h5 => ?_) (fun hzz => absurd (by decide) hzz)
      refine z_aload_n d_Lir_reach_40 rfl 41 rfl ?_
      refine z_get d_Lir_reach_41 44 rfl fl_Lir_219_4 (wc_law hi2) rfl ?_
      refine z_istore d_Lir_reach_44 46 rfl (by decide) rfl ?_
      refine z_aload_n d_Lir_reach_46 rfl 47 rfl ?_
      refine z_iload_n d_Lir_reach_47 rfl 48 rfl ?_
      refine z_putI d_Lir_reach_48 51 rfl fp_Lir_219_4 (Or.inl rfl) (wc_law hi2) (by simp) ?_
      refine z_hp (wp_law3 hi2) ?_
      refine z_iload d_Lir_reach_51 rfl 53 rfl ?_
      exact z_ireturn d_Lir_reach_53 (by simp_all [zb_eq, zb_ne, ← Int32.not_le]) (by simp_all [zb_eq, zb_ne, ← Int32.not_le])
  · have hv1 : inR l 6 = false := by simpa using hv1
    refine z_invv d_Lir_reach_5 8 rfl hm_Roo_lawAt lk_Lir_104 im_Roo_lawAt sl_Roo_Roo_lawAt rfl wc_3 (r_Roo_lawAt_n _ hv1) rfl rfl (by decide) rfl rfl (Nat.le_of_ble_eq_true rfl) ?_
    refine z_astore_nN d_Lir_reach_8 9 rfl (by decide) rfl ?_
    refine z_aload_nN d_Lir_reach_9 rfl 10 rfl ?_
    refine z_ifnonnullN d_Lir_reach_10 13 rfl ?_
    refine z_aload_n d_Lir_reach_13 rfl 14 rfl ?_
    refine z_iconst d_Lir_reach_14 (-1) (by decide) 15 rfl ?_
    refine z_invv d_Lir_reach_15 18 rfl hm_Lir_refuse lk_Lir_37 im_Lir_refuse sl_Lir_Lir_refuse rfl wc_0 (r_Lir_refuse (-1) 1 (by decide) (by decide)) rfl rfl (by decide) rfl rfl (Nat.le_of_ble_eq_true rfl) ?_
    exact z_ireturn d_Lir_reach_18 (by simp_all [zb_eq, zb_ne, ← Int32.not_le]) (by simp_all [zb_eq, zb_ne, ← Int32.not_le])
set_option maxHeartbeats 400000 in
theorem r_Lir_put {tk : Int32} {tp bt crf nt : Nat → Int32} {T PF PS : Nat → Option Nat} {C : Nat → Nat → Int32} {rc g pp bn sc : Nat → Int32} {b : zR} {u : zU} {tl : List zC} {s : Nat → Int32} {n : Nat} (hn : sc 0 = nI n) (hn30 : n ≤ 30) (hTT : TT tl T s n) (t w : Int32) : Ret 6 0 0 m_Lir_put [.ref 0, .int t, .int w] (wld (tk, tp, bt, (T, C, rc, PF, PS, g, pp, bn, sc), b, crf, nt) u tl) (some (.int ((if inR t (sc 0) = true then (if inR w 2 = true then rnC (s (6 + 6 * ix t + ix w)) (g (ix w)) (s (6 + 6 * ix t + 4)) else -2) else -1)))) (wld (tk, tp, bt, (T, C, rc, PF, PS, g, pp, bn, sc), b, (if inR t (sc 0) = true then (if inR w 2 = true then crf else rfu crf 2) else rfu crf 1), nt) u tl) := by
  refine Ret.of (n := 1) (by decide) (rfl) rfl (fun X => ?_)
  refine z_aload_n d_Lir_put_0 rfl 1 rfl ?_
  refine z_get d_Lir_put_1 4 rfl fl_Lir_19_10 wc_0 rfl ?_
  refine z_iload_n d_Lir_put_4 rfl 5 rfl ?_
  by_cases hv1 : inR t (sc 0) = true
  · obtain ⟨i2, hi2, rfl⟩ := inR_yes hv1 hn (by omega)
    have hci2 : (nI i2).toNatClampNeg = i2 := nI_clamp (by omega)
    obtain ⟨j3, hTj3, hjj3⟩ := hTT.1 i2 hi2
    have hPj3 : (wld (tk, tp, bt, (T, C, rc, PF, PS, g, pp, bn, sc), b, crf, nt) u tl)[51 + j3]? = some (tcell (fun k => s (6 + 6 * i2 + k))) := (wl_tl j3).trans hjj3
    refine z_invv d_Lir_put_5 8 rfl hm_Roo_tellingAt lk_Lir_74 im_Roo_tellingAt sl_Roo_Roo_tellingAt rfl wc_3 (r_Roo_tellingAt_s hn hn30 i2 _ hi2 hTj3) rfl rfl (by decide) rfl rfl (Nat.le_of_ble_eq_true rfl) ?_
    refine z_astore_n d_Lir_put_8 9 rfl (by decide) rfl ?_
    refine z_aload_n d_Lir_put_9 rfl 10 rfl ?_
    refine z_ifnonnull d_Lir_put_10 19 (by decide) ?_
    refine z_iload_n d_Lir_put_19 rfl 20 rfl ?_
    refine z_invs d_Lir_put_20 23 rfl hm_Lir_isSizeOrSeconds lk_Lir_124 st_Lir_isSizeOrSeconds (r_Lir_isSizeOrSeconds _) rfl rfl (by decide) rfl rfl (Nat.le_of_ble_eq_true rfl) ?_
    refine z_if_eq d_Lir_put_23 38 26 (by decide) rfl (fun h4 => ?_) (fun h4 => ?_)
    · refine z_aload_n d_Lir_put_38 rfl 39 rfl ?_
      refine z_bipush d_Lir_put_39 (-2) (by decide) 41 rfl ?_
      refine z_invv d_Lir_put_41 44 rfl hm_Lir_refuse lk_Lir_37 im_Lir_refuse sl_Lir_Lir_refuse rfl wc_0 (r_Lir_refuse (-2) 2 (by decide) (by decide)) rfl rfl (by decide) rfl rfl (Nat.le_of_ble_eq_true rfl) ?_
      exact z_ireturn d_Lir_put_44 (by simp_all [zb_eq, zb_ne, ← Int32.not_le, show ix (nI 0) = 0 from rfl, show ix (nI 1) = 1 from rfl]) (by simp_all [zb_eq, zb_ne, ← Int32.not_le])
    · obtain ⟨i5, hi5, rfl⟩ := vld h4 (n := 2) rfl (by decide)
      have hci5 : (nI i5).toNatClampNeg = i5 := nI_clamp (by omega)
      refine z_aload_n d_Lir_put_26 rfl 27 rfl ?_
      refine z_get d_Lir_put_27 30 rfl fl_Lir_19_10 wc_0 rfl ?_
      refine z_aload_n d_Lir_put_30 rfl 31 rfl ?_
      refine z_iload_n d_Lir_put_31 rfl 32 rfl ?_
      rcases (show i5 = 0 ∨ i5 = 1 by omega) with rfl | rfl
      · refine z_invv d_Lir_put_32 35 rfl hm_Roo_rightNumber lk_Lir_131 im_Roo_rightNumber sl_Roo_Roo_rightNumber rfl wc_3 (r_Roo_rightNumber_0 _ _ hPj3) rfl rfl (by decide) rfl rfl (Nat.le_of_ble_eq_true rfl) ?_
        refine z_goto d_Lir_put_35 44 (by decide) ?_
        exact z_ireturn d_Lir_put_44 (by simp_all [zb_eq, zb_ne, ← Int32.not_le, show ix (nI 0) = 0 from rfl, show ix (nI 1) = 1 from rfl]) (by simp_all [zb_eq, zb_ne, ← Int32.not_le])
      · refine z_invv d_Lir_put_32 35 rfl hm_Roo_rightNumber lk_Lir_131 im_Roo_rightNumber sl_Roo_Roo_rightNumber rfl wc_3 (r_Roo_rightNumber_1 _ _ hPj3) rfl rfl (by decide) rfl rfl (Nat.le_of_ble_eq_true rfl) ?_
        refine z_goto d_Lir_put_35 44 (by decide) ?_
        exact z_ireturn d_Lir_put_44 (by simp_all [zb_eq, zb_ne, ← Int32.not_le, show ix (nI 0) = 0 from rfl, show ix (nI 1) = 1 from rfl]) (by simp_all [zb_eq, zb_ne, ← Int32.not_le])
  · have hv1 : inR t (sc 0) = false := by simpa using hv1
    refine z_invv d_Lir_put_5 8 rfl hm_Roo_tellingAt lk_Lir_74 im_Roo_tellingAt sl_Roo_Roo_tellingAt rfl wc_3 (r_Roo_tellingAt_n _ hv1) rfl rfl (by decide) rfl rfl (Nat.le_of_ble_eq_true rfl) ?_
    refine z_astore_nN d_Lir_put_8 9 rfl (by decide) rfl ?_
    refine z_aload_nN d_Lir_put_9 rfl 10 rfl ?_
    refine z_ifnonnullN d_Lir_put_10 13 rfl ?_
    refine z_aload_n d_Lir_put_13 rfl 14 rfl ?_
    refine z_iconst d_Lir_put_14 (-1) (by decide) 15 rfl ?_
    refine z_invv d_Lir_put_15 18 rfl hm_Lir_refuse lk_Lir_37 im_Lir_refuse sl_Lir_Lir_refuse rfl wc_0 (r_Lir_refuse (-1) 1 (by decide) (by decide)) rfl rfl (by decide) rfl rfl (Nat.le_of_ble_eq_true rfl) ?_
    exact z_ireturn d_Lir_put_18 (by simp_all [zb_eq, zb_ne, ← Int32.not_le, show ix (nI 0) = 0 from rfl, show ix (nI 1) = 1 from rfl]) (by simp_all [zb_eq, zb_ne, ← Int32.not_le])
set_option maxHeartbeats 400000 in
theorem r_Lir_fits {tk : Int32} {tp bt crf nt : Nat → Int32} {T PF PS : Nat → Option Nat} {C : Nat → Nat → Int32} {rc g pp bn sc : Nat → Int32} {b : zR} {u : zU} {tl : List zC} {s : Nat → Int32} {n : Nat} (hn : sc 0 = nI n) (hn30 : n ≤ 30) (hTT : TT tl T s n) (t l : Int32) : Ret 6 0 0 m_Lir_fits [.ref 0, .int t, .int l] (wld (tk, tp, bt, (T, C, rc, PF, PS, g, pp, bn, sc), b, crf, nt) u tl) (some (.int ((if inR t (sc 0) = true then (if inR l 6 = true then (if bk C g (sc 3) s (ix t) (ix l) = 0 then 1 else 0) else -1) else -1)))) (wld (tk, tp, bt, (T, C, rc, PF, PS, g, pp, bn, sc), b, (if inR t (sc 0) = true then (if inR l 6 = true then crf else rfu crf 1) else rfu crf 1), nt) u tl) := by
  refine Ret.of (n := 2) (by decide) (rfl) rfl (fun X => ?_)
  refine z_aload_n d_Lir_fits_0 rfl 1 rfl ?_
  refine z_get d_Lir_fits_1 4 rfl fl_Lir_19_10 wc_0 rfl ?_
  refine z_iload_n d_Lir_fits_4 rfl 5 rfl ?_
  by_cases hv1 : inR t (sc 0) = true
  · obtain ⟨i2, hi2, rfl⟩ := inR_yes hv1 hn (by omega)
    have hci2 : (nI i2).toNatClampNeg = i2 := nI_clamp (by omega)
    obtain ⟨j3, hTj3, hjj3⟩ := hTT.1 i2 hi2
    have hPj3 : (wld (tk, tp, bt, (T, C, rc, PF, PS, g, pp, bn, sc), b, crf, nt) u tl)[51 + j3]? = some (tcell (fun k => s (6 + 6 * i2 + k))) := (wl_tl j3).trans hjj3
    refine z_invv d_Lir_fits_5 8 rfl hm_Roo_tellingAt lk_Lir_74 im_Roo_tellingAt sl_Roo_Roo_tellingAt rfl wc_3 (r_Roo_tellingAt_s hn hn30 i2 _ hi2 hTj3) rfl rfl (by decide) rfl rfl (Nat.le_of_ble_eq_true rfl) ?_
    refine z_astore_n d_Lir_fits_8 9 rfl (by decide) rfl ?_
    refine z_aload_n d_Lir_fits_9 rfl 10 rfl ?_
    refine z_get d_Lir_fits_10 13 rfl fl_Lir_19_10 wc_0 rfl ?_
    refine z_iload_n d_Lir_fits_13 rfl 14 rfl ?_
    by_cases hv4 : inR l 6 = true
    · obtain ⟨i5, hi5, rfl⟩ := inR_yes (n := 6) hv4 rfl (by decide)
      have hci5 : (nI i5).toNatClampNeg = i5 := nI_clamp (by omega)
      refine z_invv d_Lir_fits_14 17 rfl hm_Roo_lawAt lk_Lir_104 im_Roo_lawAt sl_Roo_Roo_lawAt rfl wc_3 (r_Roo_lawAt_s i5 hi5) rfl rfl (by decide) rfl rfl (Nat.le_of_ble_eq_true rfl) ?_
      refine z_astore d_Lir_fits_17 19 rfl (by decide) rfl ?_
      refine z_aload_n d_Lir_fits_19 rfl 20 rfl ?_
      refine z_ifnull d_Lir_fits_20 23 rfl ?_
      refine z_aload d_Lir_fits_23 rfl 25 rfl ?_
      refine z_ifnonnull d_Lir_fits_25 34 (by decide) ?_
      refine z_aload_n d_Lir_fits_34 rfl 35 rfl ?_
      refine z_get d_Lir_fits_35 38 rfl fl_Lir_19_10 wc_0 rfl ?_
      refine z_aload_n d_Lir_fits_38 rfl 39 rfl ?_
      refine z_aload d_Lir_fits_39 rfl 41 rfl ?_
      refine z_invv d_Lir_fits_41 44 rfl hm_Roo_brokenBy lk_Lir_135 im_Roo_brokenBy sl_Roo_Roo_brokenBy rfl wc_3 (r_Roo_brokenBy _ _ hPj3 _ hi5) rfl rfl (by decide) rfl rfl (Nat.le_of_ble_eq_true rfl) ?_
      refine z_if_ne d_Lir_fits_44 51 47 (by decide) rfl (fun h6 => ?_) (fun h6 => ?_)
      · have e1 : ¬ bk C g (sc 3) s _ _ = 0 := h6
        refine z_iconst d_Lir_fits_51 0 (by decide) 52 rfl ?_
        exact z_ireturn d_Lir_fits_52 (by simp_all [zb_eq, zb_ne, ← Int32.not_le]) (by simp_all [zb_eq, zb_ne, ← Int32.not_le])
      · have e1 : bk C g (sc 3) s _ _ = 0 := h6
        refine z_iconst d_Lir_fits_47 1 (by decide) 48 rfl ?_
        refine z_goto d_Lir_fits_48 52 (by decide) ?_
        exact z_ireturn d_Lir_fits_52 (by simp_all [zb_eq, zb_ne, ← Int32.not_le]) (by simp_all [zb_eq, zb_ne, ← Int32.not_le])
    · have hv4 : inR l 6 = false := by simpa using hv4
      refine z_invv d_Lir_fits_14 17 rfl hm_Roo_lawAt lk_Lir_104 im_Roo_lawAt sl_Roo_Roo_lawAt rfl wc_3 (r_Roo_lawAt_n _ hv4) rfl rfl (by decide) rfl rfl (Nat.le_of_ble_eq_true rfl) ?_
      refine z_astoreN d_Lir_fits_17 19 rfl (by decide) rfl ?_
      refine z_aload_n d_Lir_fits_19 rfl 20 rfl ?_
      refine z_ifnull d_Lir_fits_20 23 rfl ?_
      refine z_aloadN d_Lir_fits_23 rfl 25 rfl ?_
      refine z_ifnonnullN d_Lir_fits_25 28 rfl ?_
      refine z_aload_n d_Lir_fits_28 rfl 29 rfl ?_
      refine z_iconst d_Lir_fits_29 (-1) (by decide) 30 rfl ?_
      refine z_invv d_Lir_fits_30 33 rfl hm_Lir_refuse lk_Lir_37 im_Lir_refuse sl_Lir_Lir_refuse rfl wc_0 (r_Lir_refuse (-1) 1 (by decide) (by decide)) rfl rfl (by decide) rfl rfl (Nat.le_of_ble_eq_true rfl) ?_
      exact z_ireturn d_Lir_fits_33 (by simp_all [zb_eq, zb_ne, ← Int32.not_le]) (by simp_all [zb_eq, zb_ne, ← Int32.not_le])
  · have hv1 : inR t (sc 0) = false := by simpa using hv1
    refine z_invv d_Lir_fits_5 8 rfl hm_Roo_tellingAt lk_Lir_74 im_Roo_tellingAt sl_Roo_Roo_tellingAt rfl wc_3 (r_Roo_tellingAt_n _ hv1) rfl rfl (by decide) rfl rfl (Nat.le_of_ble_eq_true rfl) ?_
    refine z_astore_nN d_Lir_fits_8 9 rfl (by decide) rfl ?_
    refine z_aload_n d_Lir_fits_9 rfl 10 rfl ?_
    refine z_get d_Lir_fits_10 13 rfl fl_Lir_19_10 wc_0 rfl ?_
    refine z_iload_n d_Lir_fits_13 rfl 14 rfl ?_
    by_cases hv7 : inR l 6 = true
    · obtain ⟨i8, hi8, rfl⟩ := inR_yes (n := 6) hv7 rfl (by decide)
      have hci8 : (nI i8).toNatClampNeg = i8 := nI_clamp (by omega)
      refine z_invv d_Lir_fits_14 17 rfl hm_Roo_lawAt lk_Lir_104 im_Roo_lawAt sl_Roo_Roo_lawAt rfl wc_3 (r_Roo_lawAt_s i8 hi8) rfl rfl (by decide) rfl rfl (Nat.le_of_ble_eq_true rfl) ?_
      refine z_astore d_Lir_fits_17 19 rfl (by decide) rfl ?_
      refine z_aload_nN d_Lir_fits_19 rfl 20 rfl ?_
      refine z_ifnullN d_Lir_fits_20 28 (by decide) ?_
      refine z_aload_n d_Lir_fits_28 rfl 29 rfl ?_
      refine z_iconst d_Lir_fits_29 (-1) (by decide) 30 rfl ?_
      refine z_invv d_Lir_fits_30 33 rfl hm_Lir_refuse lk_Lir_37 im_Lir_refuse sl_Lir_Lir_refuse rfl wc_0 (r_Lir_refuse (-1) 1 (by decide) (by decide)) rfl rfl (by decide) rfl rfl (Nat.le_of_ble_eq_true rfl) ?_
      exact z_ireturn d_Lir_fits_33 (by simp_all [zb_eq, zb_ne, ← Int32.not_le]) (by simp_all [zb_eq, zb_ne, ← Int32.not_le])
    · have hv7 : inR l 6 = false := by simpa using hv7
      refine z_invv d_Lir_fits_14 17 rfl hm_Roo_lawAt lk_Lir_104 im_Roo_lawAt sl_Roo_Roo_lawAt rfl wc_3 (r_Roo_lawAt_n _ hv7) rfl rfl (by decide) rfl rfl (Nat.le_of_ble_eq_true rfl) ?_
      refine z_astoreN d_Lir_fits_17 19 rfl (by decide) rfl ?_
      refine z_aload_nN d_Lir_fits_19 rfl 20 rfl ?_
      refine z_ifnullN d_Lir_fits_20 28 (by decide) ?_
      refine z_aload_n d_Lir_fits_28 rfl 29 rfl ?_
      refine z_iconst d_Lir_fits_29 (-1) (by decide) 30 rfl ?_
      refine z_invv d_Lir_fits_30 33 rfl hm_Lir_refuse lk_Lir_37 im_Lir_refuse sl_Lir_Lir_refuse rfl wc_0 (r_Lir_refuse (-1) 1 (by decide) (by decide)) rfl rfl (by decide) rfl rfl (Nat.le_of_ble_eq_true rfl) ?_
      exact z_ireturn d_Lir_fits_33 (by simp_all [zb_eq, zb_ne, ← Int32.not_le]) (by simp_all [zb_eq, zb_ne, ← Int32.not_le])
set_option maxHeartbeats 400000 in
theorem r_Lir_only {tk : Int32} {tp bt crf nt : Nat → Int32} {T PF PS : Nat → Option Nat} {C : Nat → Nat → Int32} {rc g pp bn sc : Nat → Int32} {b : zR} {u : zU} {tl : List zC} {s : Nat → Int32} {n : Nat} (hn : sc 0 = nI n) (hn30 : n ≤ 30) (hTT : TT tl T s n) (l : Int32) : Ret 6 0 0 m_Lir_only [.ref 0, .int l] (wld (tk, tp, bt, (T, C, rc, PF, PS, g, pp, bn, sc), b, crf, nt) u tl) (some (.int ((if inR l 6 = true then sm (fun i => if s (6 + 6 * i + 3) &&& 0 = 0 then (if lf C g (sc 3) s i = 1 <<< (nI (ix l) &&& 31) then 1 else 0) else 0) n else -1)))) (wld (tk, tp, bt, (T, C, rc, PF, PS, g, pp, bn, sc), b, (if inR l 6 = true then crf else rfu crf 1), nt) u tl) := by
  refine Ret.of (n := 0) (by decide) (rfl) rfl (fun X => ?_)
  refine z_aload_n d_Lir_only_0 rfl 1 rfl ?_
  refine z_get d_Lir_only_1 4 rfl fl_Lir_19_10 wc_0 rfl ?_
  refine z_iload_n d_Lir_only_4 rfl 5 rfl ?_
  by_cases hv1 : inR l 6 = true
  · obtain ⟨i2, hi2, rfl⟩ := inR_yes (n := 6) hv1 rfl (by decide)
    have hci2 : (nI i2).toNatClampNeg = i2 := nI_clamp (by omega)
    refine z_invv d_Lir_only_5 8 rfl hm_Roo_lawAt lk_Lir_104 im_Roo_lawAt sl_Roo_Roo_lawAt rfl wc_3 (r_Roo_lawAt_s i2 hi2) rfl rfl (by decide) rfl rfl (Nat.le_of_ble_eq_true rfl) ?_
    refine z_ifnonnull d_Lir_only_8 19 (by decide) ?_
    refine z_aload_n d_Lir_only_19 rfl 20 rfl ?_
    refine z_iload_n d_Lir_only_20 rfl 21 rfl ?_
    refine z_iconst d_Lir_only_21 0 (by decide) 22 rfl ?_
    refine z_invv d_Lir_only_22 25 rfl hm_Lir_howManyFitOnly lk_Lir_152 im_Lir_howManyFitOnly sl_Lir_Lir_howManyFitOnly rfl wc_0 (r_Lir_howManyFitOnly hn hn30 hTT i2 _ (by omega)) rfl rfl (by decide) rfl rfl (Nat.le_of_ble_eq_true rfl) ?_
    exact z_ireturn d_Lir_only_25 (by simp_all [zb_eq, zb_ne, ← Int32.not_le]) (by simp_all [zb_eq, zb_ne, ← Int32.not_le])
  · have hv1 : inR l 6 = false := by simpa using hv1
    refine z_invv d_Lir_only_5 8 rfl hm_Roo_lawAt lk_Lir_104 im_Roo_lawAt sl_Roo_Roo_lawAt rfl wc_3 (r_Roo_lawAt_n _ hv1) rfl rfl (by decide) rfl rfl (Nat.le_of_ble_eq_true rfl) ?_
    refine z_ifnonnullN d_Lir_only_8 11 rfl ?_
    refine z_aload_n d_Lir_only_11 rfl 12 rfl ?_
    refine z_iconst d_Lir_only_12 (-1) (by decide) 13 rfl ?_
    refine z_invv d_Lir_only_13 16 rfl hm_Lir_refuse lk_Lir_37 im_Lir_refuse sl_Lir_Lir_refuse rfl wc_0 (r_Lir_refuse (-1) 1 (by decide) (by decide)) rfl rfl (by decide) rfl rfl (Nat.le_of_ble_eq_true rfl) ?_
    refine z_goto d_Lir_only_16 25 (by decide) ?_
    exact z_ireturn d_Lir_only_25 (by simp_all [zb_eq, zb_ne, ← Int32.not_le]) (by simp_all [zb_eq, zb_ne, ← Int32.not_le])
set_option maxHeartbeats 400000 in
theorem r_Lir_pictures {tk : Int32} {tp bt crf nt : Nat → Int32} {T PF PS : Nat → Option Nat} {C : Nat → Nat → Int32} {rc g pp bn sc : Nat → Int32} {b : zR} {u : zU} {tl : List zC} {s : Nat → Int32} {n : Nat} (hn : sc 0 = nI n) (hn30 : n ≤ 30) (hTT : TT tl T s n) (l : Int32) : Ret 6 0 0 m_Lir_pictures [.ref 0, .int l] (wld (tk, tp, bt, (T, C, rc, PF, PS, g, pp, bn, sc), b, crf, nt) u tl) (some (.int ((if inR l 6 = true then sm (fun i => if s (6 + 6 * i + 3) &&& 128 = 128 then (if lf C g (sc 3) s i = 1 <<< (nI (ix l) &&& 31) then 1 else 0) else 0) n else -1)))) (wld (tk, tp, bt, (T, C, rc, PF, PS, g, pp, bn, sc), b, (if inR l 6 = true then crf else rfu crf 1), nt) u tl) := by
  refine Ret.of (n := 0) (by decide) (rfl) rfl (fun X => ?_)
  refine z_aload_n d_Lir_pictures_0 rfl 1 rfl ?_
  refine z_get d_Lir_pictures_1 4 rfl fl_Lir_19_10 wc_0 rfl ?_
  refine z_iload_n d_Lir_pictures_4 rfl 5 rfl ?_
  by_cases hv1 : inR l 6 = true
  · obtain ⟨i2, hi2, rfl⟩ := inR_yes (n := 6) hv1 rfl (by decide)
    have hci2 : (nI i2).toNatClampNeg = i2 := nI_clamp (by omega)
    refine z_invv d_Lir_pictures_5 8 rfl hm_Roo_lawAt lk_Lir_104 im_Roo_lawAt sl_Roo_Roo_lawAt rfl wc_3 (r_Roo_lawAt_s i2 hi2) rfl rfl (by decide) rfl rfl (Nat.le_of_ble_eq_true rfl) ?_
    refine z_ifnonnull d_Lir_pictures_8 19 (by decide) ?_
    refine z_aload_n d_Lir_pictures_19 rfl 20 rfl ?_
    refine z_iload_n d_Lir_pictures_20 rfl 21 rfl ?_
    refine z_sipush d_Lir_pictures_21 128 (by decide) 24 rfl ?_
    refine z_invv d_Lir_pictures_24 27 rfl hm_Lir_howManyFitOnly lk_Lir_152 im_Lir_howManyFitOnly sl_Lir_Lir_howManyFitOnly rfl wc_0 (r_Lir_howManyFitOnly hn hn30 hTT i2 _ (by omega)) rfl rfl (by decide) rfl rfl (Nat.le_of_ble_eq_true rfl) ?_
    exact z_ireturn d_Lir_pictures_27 (by simp_all [zb_eq, zb_ne, ← Int32.not_le]) (by simp_all [zb_eq, zb_ne, ← Int32.not_le])
  · have hv1 : inR l 6 = false := by simpa using hv1
    refine z_invv d_Lir_pictures_5 8 rfl hm_Roo_lawAt lk_Lir_104 im_Roo_lawAt sl_Roo_Roo_lawAt rfl wc_3 (r_Roo_lawAt_n _ hv1) rfl rfl (by decide) rfl rfl (Nat.le_of_ble_eq_true rfl) ?_
    refine z_ifnonnullN d_Lir_pictures_8 11 rfl ?_
    refine z_aload_n d_Lir_pictures_11 rfl 12 rfl ?_
    refine z_iconst d_Lir_pictures_12 (-1) (by decide) 13 rfl ?_
    refine z_invv d_Lir_pictures_13 16 rfl hm_Lir_refuse lk_Lir_37 im_Lir_refuse sl_Lir_Lir_refuse rfl wc_0 (r_Lir_refuse (-1) 1 (by decide) (by decide)) rfl rfl (by decide) rfl rfl (Nat.le_of_ble_eq_true rfl) ?_
    refine z_goto d_Lir_pictures_16 27 (by decide) ?_
    exact z_ireturn d_Lir_pictures_27 (by simp_all [zb_eq, zb_ne, ← Int32.not_le]) (by simp_all [zb_eq, zb_ne, ← Int32.not_le])
