set_option maxHeartbeats 400000 in
theorem r_Lir_count_0 {tk : Int32} {tp bt crf nt : Nat → Int32} {T PF PS : Nat → Option Nat} {C : Nat → Nat → Int32} {rc g pp bn sc : Nat → Int32} {b : zR} {u : zU} {tl : List zC} {s : Nat → Int32} {n : Nat} (hn : sc 0 = nI n) (hn30 : n ≤ 30) (hTT : TT tl T s n) : Ret 6 0 0 m_Lir_count [.ref 0, .int 0] (wld (tk, tp, bt, (T, C, rc, PF, PS, g, pp, bn, sc), b, crf, nt) u tl) (some (.int (sc 0))) (wld (tk, tp, bt, (T, C, rc, PF, PS, g, pp, bn, sc), b, crf, nt) u tl) := by
  refine Ret.of (n := 0) (by decide) (rfl) rfl (fun X => ?_)
  refine z_iload_n d_Lir_count_0 rfl 1 rfl ?_
  refine z_tabIn (off := 39) d_Lir_count_1 40 (by decide) (by decide) (by decide) (by decide) ?_
  refine z_aload_n d_Lir_count_40 rfl 41 rfl ?_
  refine z_get d_Lir_count_41 44 rfl fl_Lir_19_10 wc_0 rfl ?_
  refine z_get d_Lir_count_44 47 rfl fl_Lir_53_6 wc_3 rfl ?_
  exact z_ireturn d_Lir_count_47 (rfl) (rfl)
set_option maxHeartbeats 400000 in
theorem r_Lir_count_1 {tk : Int32} {tp bt crf nt : Nat → Int32} {T PF PS : Nat → Option Nat} {C : Nat → Nat → Int32} {rc g pp bn sc : Nat → Int32} {b : zR} {u : zU} {tl : List zC} {s : Nat → Int32} {n : Nat} (hn : sc 0 = nI n) (hn30 : n ≤ 30) (hTT : TT tl T s n) : Ret 6 0 0 m_Lir_count [.ref 0, .int 1] (wld (tk, tp, bt, (T, C, rc, PF, PS, g, pp, bn, sc), b, crf, nt) u tl) (some (.int (sm (fun i => if s (6 + 6 * i + 5) = 0 then 0 else 1) n))) (wld (tk, tp, bt, (T, C, rc, PF, PS, g, pp, bn, sc), b, crf, nt) u tl) := by
  refine Ret.of (n := 0) (by decide) (rfl) rfl (fun X => ?_)
  refine z_iload_n d_Lir_count_0 rfl 1 rfl ?_
  refine z_tabIn (off := 47) d_Lir_count_1 48 (by decide) (by decide) (by decide) (by decide) ?_
  refine z_aload_n d_Lir_count_48 rfl 49 rfl ?_
  refine z_get d_Lir_count_49 52 rfl fl_Lir_19_10 wc_0 rfl ?_
  refine z_invv d_Lir_count_52 55 rfl hm_Roo_howManyAsked lk_Lir_229 im_Roo_howManyAsked sl_Roo_Roo_howManyAsked rfl wc_3 (r_Roo_howManyAsked hn hn30 hTT) rfl rfl (by decide) rfl rfl (Nat.le_of_ble_eq_true rfl) ?_
  exact z_ireturn d_Lir_count_55 (rfl) (rfl)
set_option maxHeartbeats 400000 in
theorem r_Lir_count_2 {tk : Int32} {tp bt crf nt : Nat → Int32} {T PF PS : Nat → Option Nat} {C : Nat → Nat → Int32} {rc g pp bn sc : Nat → Int32} {b : zR} {u : zU} {tl : List zC} {s : Nat → Int32} {n : Nat} (hn : sc 0 = nI n) (hn30 : n ≤ 30) (hTT : TT tl T s n) : Ret 6 0 0 m_Lir_count [.ref 0, .int 2] (wld (tk, tp, bt, (T, C, rc, PF, PS, g, pp, bn, sc), b, crf, nt) u tl) (some (.int (sc 1))) (wld (tk, tp, bt, (T, C, rc, PF, PS, g, pp, bn, sc), b, crf, nt) u tl) := by
  refine Ret.of (n := 0) (by decide) (rfl) rfl (fun X => ?_)
  refine z_iload_n d_Lir_count_0 rfl 1 rfl ?_
  refine z_tabIn (off := 55) d_Lir_count_1 56 (by decide) (by decide) (by decide) (by decide) ?_
  refine z_aload_n d_Lir_count_56 rfl 57 rfl ?_
  refine z_get d_Lir_count_57 60 rfl fl_Lir_19_10 wc_0 rfl ?_
  refine z_get d_Lir_count_60 63 rfl fl_Lir_194_6 wc_3 rfl ?_
  exact z_ireturn d_Lir_count_63 (rfl) (rfl)
set_option maxHeartbeats 400000 in
theorem r_Lir_count_3 {tk : Int32} {tp bt crf nt : Nat → Int32} {T PF PS : Nat → Option Nat} {C : Nat → Nat → Int32} {rc g pp bn sc : Nat → Int32} {b : zR} {u : zU} {tl : List zC} {s : Nat → Int32} {n : Nat} (hn : sc 0 = nI n) (hn30 : n ≤ 30) (hTT : TT tl T s n) : Ret 6 0 0 m_Lir_count [.ref 0, .int 3] (wld (tk, tp, bt, (T, C, rc, PF, PS, g, pp, bn, sc), b, crf, nt) u tl) (some (.int (sm (fun i => (if s (6 + 6 * i + 0) = -9 then 1 else 0) + (if s (6 + 6 * i + 1) = -9 then 1 else 0) + (if s (6 + 6 * i + 2) = -9 then 1 else 0)) n))) (wld (tk, tp, bt, (T, C, rc, PF, PS, g, pp, bn, sc), b, crf, nt) u tl) := by
  refine Ret.of (n := 0) (by decide) (rfl) rfl (fun X => ?_)
  refine z_iload_n d_Lir_count_0 rfl 1 rfl ?_
  refine z_tabIn (off := 63) d_Lir_count_1 64 (by decide) (by decide) (by decide) (by decide) ?_
  refine z_aload_n d_Lir_count_64 rfl 65 rfl ?_
  refine z_get d_Lir_count_65 68 rfl fl_Lir_19_10 wc_0 rfl ?_
  refine z_invv d_Lir_count_68 71 rfl hm_Roo_howManyGaps lk_Lir_259 im_Roo_howManyGaps sl_Roo_Roo_howManyGaps rfl wc_3 (r_Roo_howManyGaps hn hn30 hTT) rfl rfl (by decide) rfl rfl (Nat.le_of_ble_eq_true rfl) ?_
  exact z_ireturn d_Lir_count_71 (rfl) (rfl)
set_option maxHeartbeats 400000 in
theorem r_Lir_count_4 {tk : Int32} {tp bt crf nt : Nat → Int32} {T PF PS : Nat → Option Nat} {C : Nat → Nat → Int32} {rc g pp bn sc : Nat → Int32} {b : zR} {u : zU} {tl : List zC} {s : Nat → Int32} {n : Nat} (hn : sc 0 = nI n) (hn30 : n ≤ 30) (hTT : TT tl T s n) : Ret 6 0 0 m_Lir_count [.ref 0, .int 4] (wld (tk, tp, bt, (T, C, rc, PF, PS, g, pp, bn, sc), b, crf, nt) u tl) (some (.int (sm (fun i => bcI (s (6 + 6 * i + 3))) n))) (wld (tk, tp, bt, (T, C, rc, PF, PS, g, pp, bn, sc), b, crf, nt) u tl) := by
  refine Ret.of (n := 0) (by decide) (rfl) rfl (fun X => ?_)
  refine z_iload_n d_Lir_count_0 rfl 1 rfl ?_
  refine z_tabIn (off := 71) d_Lir_count_1 72 (by decide) (by decide) (by decide) (by decide) ?_
  refine z_aload_n d_Lir_count_72 rfl 73 rfl ?_
  refine z_get d_Lir_count_73 76 rfl fl_Lir_19_10 wc_0 rfl ?_
  refine z_invv d_Lir_count_76 79 rfl hm_Roo_howManyMarks lk_Lir_262 im_Roo_howManyMarks sl_Roo_Roo_howManyMarks rfl wc_3 (r_Roo_howManyMarks hn hn30 hTT) rfl rfl (by decide) rfl rfl (Nat.le_of_ble_eq_true rfl) ?_
  exact z_ireturn d_Lir_count_79 (rfl) (rfl)
set_option maxHeartbeats 400000 in
theorem r_Lir_count_5 {tk : Int32} {tp bt crf nt : Nat → Int32} {T PF PS : Nat → Option Nat} {C : Nat → Nat → Int32} {rc g pp bn sc : Nat → Int32} {b : zR} {u : zU} {tl : List zC} {s : Nat → Int32} {n : Nat} (hn : sc 0 = nI n) (hn30 : n ≤ 30) (hTT : TT tl T s n) : Ret 6 0 0 m_Lir_count [.ref 0, .int 5] (wld (tk, tp, bt, (T, C, rc, PF, PS, g, pp, bn, sc), b, crf, nt) u tl) (some (.int (tp 0))) (wld (tk, tp, bt, (T, C, rc, PF, PS, g, pp, bn, sc), b, crf, nt) u tl) := by
  refine Ret.of (n := 0) (by decide) (rfl) rfl (fun X => ?_)
  refine z_iload_n d_Lir_count_0 rfl 1 rfl ?_
  refine z_tabIn (off := 79) d_Lir_count_1 80 (by decide) (by decide) (by decide) (by decide) ?_
  refine z_aload_n d_Lir_count_80 rfl 81 rfl ?_
  refine z_get d_Lir_count_81 84 rfl fl_Lir_10_10 wc_0 rfl ?_
  refine z_get d_Lir_count_84 87 rfl fl_Lir_49_7 wc_1 rfl ?_
  exact z_ireturn d_Lir_count_87 (rfl) (rfl)
set_option maxHeartbeats 400000 in
theorem r_Lir_refusalsCounted_s {tk : Int32} {tp bt crf nt : Nat → Int32} {T PF PS : Nat → Option Nat} {C : Nat → Nat → Int32} {rc g pp bn sc : Nat → Int32} {b : zR} {u : zU} {tl : List zC} (j : Nat) (hj : j < 6) : Ret 0 0 0 m_Lir_refusalsCounted [.ref 0, .int (nI (11 + j))] (wld (tk, tp, bt, (T, C, rc, PF, PS, g, pp, bn, sc), b, crf, nt) u tl) (some (.int (crf (1 + j)))) (wld (tk, tp, bt, (T, C, rc, PF, PS, g, pp, bn, sc), b, crf, nt) u tl) := by
  refine Ret.of (n := 0) (by decide) (rfl) rfl (fun X => ?_)
  refine z_iload_n d_Lir_refusalsCounted_0 rfl 1 rfl ?_
  refine z_bipush d_Lir_refusalsCounted_1 11 (by decide) 3 rfl ?_
  refine z_icmp_lt d_Lir_refusalsCounted_3 12 6 (by decide) rfl (fun hzz => absurd hzz (Int32.not_lt.mpr (nI_le (a := 11) (by omega) (by omega)))) (fun h1 => ?_)
  refine z_iload_n d_Lir_refusalsCounted_6 rfl 7 rfl ?_
  refine z_bipush d_Lir_refusalsCounted_7 17 (by decide) 9 rfl ?_
  refine z_icmp_lt d_Lir_refusalsCounted_9 15 12 (by decide) rfl (fun h2 => ?_) (fun hzz => absurd (show nI (11 + j) < nI 17 from nI_lt (by omega) (by decide)) hzz)
  refine z_aload_n d_Lir_refusalsCounted_15 rfl 16 rfl ?_
  refine z_get d_Lir_refusalsCounted_16 19 rfl fl_Lir_26_10 wc_0 rfl ?_
  refine z_iload_n d_Lir_refusalsCounted_19 rfl 20 rfl ?_
  refine z_bipush d_Lir_refusalsCounted_20 11 (by decide) 22 rfl ?_
  refine z_isub d_Lir_refusalsCounted_22 23 rfl ?_
  refine z_iconst d_Lir_refusalsCounted_23 1 (by decide) 24 rfl ?_
  refine z_iadd d_Lir_refusalsCounted_24 25 rfl ?_
  refine z_top (.int (nI (1 + j))) (by rw [← nI_add 11 j, ← nI_add 1 j]; simp [nI, Int32.add_comm]; done) ?_
  refine z_iaload d_Lir_refusalsCounted_25 ((1 + j)) 26 rfl wc_43 (by show nI (1 + j) = _; simp only [pk_mul, nI_add]) (by omega) (by decide) ?_
  exact z_ireturn d_Lir_refusalsCounted_26 (rfl) (rfl)
set_option maxHeartbeats 400000 in
theorem r_Lir_refusalsCounted_n {tk : Int32} {tp bt crf nt : Nat → Int32} {T PF PS : Nat → Option Nat} {C : Nat → Nat → Int32} {rc g pp bn sc : Nat → Int32} {b : zR} {u : zU} {tl : List zC} (w : Int32) (hw : w < 11 ∨ 17 ≤ w) : Ret 0 0 0 m_Lir_refusalsCounted [.ref 0, .int w] (wld (tk, tp, bt, (T, C, rc, PF, PS, g, pp, bn, sc), b, crf, nt) u tl) (some (.int (-9))) (wld (tk, tp, bt, (T, C, rc, PF, PS, g, pp, bn, sc), b, crf, nt) u tl) := by
  refine Ret.of (n := 0) (by decide) (rfl) rfl (fun X => ?_)
  refine z_iload_n d_Lir_refusalsCounted_0 rfl 1 rfl ?_
  refine z_bipush d_Lir_refusalsCounted_1 11 (by decide) 3 rfl ?_
  refine z_icmp_lt d_Lir_refusalsCounted_3 12 6 (by decide) rfl (fun h1 => ?_) (fun h1 => ?_)
  · refine z_bipush d_Lir_refusalsCounted_12 (-9) (by decide) 14 rfl ?_
    exact z_ireturn d_Lir_refusalsCounted_14 (rfl) (rfl)
  · have h17 := hw.resolve_left h1
    refine z_iload_n d_Lir_refusalsCounted_6 rfl 7 rfl ?_
    refine z_bipush d_Lir_refusalsCounted_7 17 (by decide) 9 rfl ?_
    refine z_icmp_lt d_Lir_refusalsCounted_9 15 12 (by decide) rfl (fun hzz => absurd hzz (Int32.not_lt.mpr h17)) (fun h2 => ?_)
    refine z_bipush d_Lir_refusalsCounted_12 (-9) (by decide) 14 rfl ?_
    exact z_ireturn d_Lir_refusalsCounted_14 (rfl) (rfl)
set_option maxHeartbeats 400000 in
theorem r_Lir_count_r {tk : Int32} {tp bt crf nt : Nat → Int32} {T PF PS : Nat → Option Nat} {C : Nat → Nat → Int32} {rc g pp bn sc : Nat → Int32} {b : zR} {u : zU} {tl : List zC}  (j : Nat) (hj : j < 6) : Ret 6 0 0 m_Lir_count [.ref 0, .int (nI (11 + j))] (wld (tk, tp, bt, (T, C, rc, PF, PS, g, pp, bn, sc), b, crf, nt) u tl) (some (.int (crf (1 + j)))) (wld (tk, tp, bt, (T, C, rc, PF, PS, g, pp, bn, sc), b, crf, nt) u tl) := by
  refine Ret.of (n := 0) (by decide) (rfl) rfl (fun X => ?_)
  refine z_iload_n d_Lir_count_0 rfl 1 rfl ?_
  refine z_tabOut d_Lir_count_1 88 (Or.inr (by rw [nI_toInt (by omega)]; omega)) (by decide) ?_
  refine z_aload_n d_Lir_count_88 rfl 89 rfl ?_
  refine z_iload_n d_Lir_count_89 rfl 90 rfl ?_
  refine z_invv d_Lir_count_90 93 rfl hm_Lir_refusalsCounted lk_Lir_265 im_Lir_refusalsCounted sl_Lir_Lir_refusalsCounted rfl wc_0 (r_Lir_refusalsCounted_s j hj) rfl rfl (by decide) rfl rfl (Nat.le_of_ble_eq_true rfl) ?_
  exact z_ireturn d_Lir_count_93 (rfl) (rfl)
set_option maxHeartbeats 400000 in
theorem r_Lir_count_o {tk : Int32} {tp bt crf nt : Nat → Int32} {T PF PS : Nat → Option Nat} {C : Nat → Nat → Int32} {rc g pp bn sc : Nat → Int32} {b : zR} {u : zU} {tl : List zC}  (w : Int32) (hw : w.toInt < 0 ∨ 5 < w.toInt) (hw2 : w < 11 ∨ 17 ≤ w) : Ret 6 0 0 m_Lir_count [.ref 0, .int w] (wld (tk, tp, bt, (T, C, rc, PF, PS, g, pp, bn, sc), b, crf, nt) u tl) (some (.int (-9))) (wld (tk, tp, bt, (T, C, rc, PF, PS, g, pp, bn, sc), b, crf, nt) u tl) := by
  refine Ret.of (n := 0) (by decide) (rfl) rfl (fun X => ?_)
  refine z_iload_n d_Lir_count_0 rfl 1 rfl ?_
  refine z_tabOut d_Lir_count_1 88 (hw) (by decide) ?_
  refine z_aload_n d_Lir_count_88 rfl 89 rfl ?_
  refine z_iload_n d_Lir_count_89 rfl 90 rfl ?_
  refine z_invv d_Lir_count_90 93 rfl hm_Lir_refusalsCounted lk_Lir_265 im_Lir_refusalsCounted sl_Lir_Lir_refusalsCounted rfl wc_0 (r_Lir_refusalsCounted_n _ hw2) rfl rfl (by decide) rfl rfl (Nat.le_of_ble_eq_true rfl) ?_
  exact z_ireturn d_Lir_count_93 (rfl) (rfl)
theorem castT {ci : Nat} (h : ci ∈ zTel) : ∃ (C : String) (T : u_T) (N : Nat), zCl[ci]? = some (C, T, N) ∧ C ∈ zCast := by
  simp only [zTel, List.mem_cons, List.not_mem_nil, or_false] at h
  rcases h with rfl | rfl | rfl | rfl | rfl | rfl
  all_goals exact ⟨_, _, _, rfl, by decide⟩
theorem z_aastoreT {X : zS} {M : zM} {d kc ks : Nat} {r : Option Value} {hp' : List zC} {pc : Nat} {L : List (Option Value)} {st : List Value} {hp : List zC} {o N v ci : Nat} {fs : List Value} {f : Nat → Option Nat} {i : Int32} (hdg : decode M.2.1 pc = .ok (.aastore, 1)) (j n : Nat) (en : pc + 1 = n) (ho : hp[o]? = some (.inr (.inl (1, N, f)))) (hv : hp[v]? = some (.inr (.inr (ci, fs)))) (hci : ci ∈ zTel) (hj : i = nI j) (hb : j < N) (hN : N < 2 ^ 31) (kk : Z X M d kc ks r hp' n L st (hp.set o (.inr (.inl (1, N, va_up f j (some v)))))) : Z X M d kc ks r hp' pc L (.ref v :: .int i :: .ref o :: st) hp := by
  obtain ⟨C, T, N1, hc, hC⟩ := castT hci
  exact z_aastore (C := C) hdg j n en ho hv hc (Or.inr ⟨rfl, hC⟩) hj hb hN kk
set_option maxHeartbeats 400000 in
theorem r_Roo_addPair {tk : Int32} {tp bt crf nt : Nat → Int32} {T PF PS : Nat → Option Nat} {C : Nat → Nat → Int32} {rc g pp bn sc : Nat → Int32} {b : zR} {u : zU} {tl : List zC} (i j q : Nat) {v1 v2 : Nat → Int32} (hi : tl[i]? = some (tcell v1)) (hj : tl[j]? = some (tcell v2)) (hq : sc 1 = nI q) (hq10 : q < 10) : Ret 0 0 0 m_Roo_addPair [.ref 3, .ref (51 + i), .ref (51 + j)] (wld (tk, tp, bt, (T, C, rc, PF, PS, g, pp, bn, sc), b, crf, nt) u tl) (some (.int (sc 1 + 1))) (wld (tk, tp, bt, (T, C, rc, va_up PF q (some (51 + i)), va_up PS q (some (51 + j)), g, pp, bn, upd sc 1 (sc 1 + 1)), b, crf, nt) u tl) := by
  refine Ret.of (n := 0) (by decide) (rfl) rfl (fun X => ?_)
  refine z_aload_n d_Roo_addPair_0 rfl 1 rfl ?_
  refine z_get d_Roo_addPair_1 4 rfl fl_Roo_80_6 wc_3 rfl ?_
  refine z_if_lt d_Roo_addPair_4 61 7 (by decide) rfl (fun hzz => absurd hzz (by rw [hq]; exact nI_pos (by omega))) (fun h1 => ?_)
  refine z_aload_n d_Roo_addPair_7 rfl 8 rfl ?_
  refine z_get d_Roo_addPair_8 11 rfl fl_Roo_80_6 wc_3 rfl ?_
  refine z_aload_n d_Roo_addPair_11 rfl 12 rfl ?_
  refine z_get d_Roo_addPair_12 15 rfl fl_Roo_24_6 wc_3 rfl ?_
  refine z_alenR d_Roo_addPair_15 16 rfl wc_18 (by decide) 10 (by decide) ?_
  refine z_icmp_ge d_Roo_addPair_16 61 19 (by decide) rfl (fun hzz => absurd hzz (by rw [hq]; exact (show ¬ nI 10 ≤ nI q from nI_ge hq10 (by decide)))) (fun h2 => ?_)
  refine z_aload_n d_Roo_addPair_19 rfl 20 rfl ?_
  refine z_get d_Roo_addPair_20 23 rfl fl_Roo_80_6 wc_3 rfl ?_
  refine z_aload_n d_Roo_addPair_23 rfl 24 rfl ?_
  refine z_get d_Roo_addPair_24 27 rfl fl_Roo_27_6 wc_3 rfl ?_
  refine z_alenR d_Roo_addPair_27 28 rfl wc_19 (by decide) 10 (by decide) ?_
  refine z_icmp_ge d_Roo_addPair_28 61 31 (by decide) rfl (fun hzz => absurd hzz (by rw [hq]; exact (show ¬ nI 10 ≤ nI q from nI_ge hq10 (by decide)))) (fun h3 => ?_)
  refine z_aload_n d_Roo_addPair_31 rfl 32 rfl ?_
  refine z_get d_Roo_addPair_32 35 rfl fl_Roo_24_6 wc_3 rfl ?_
  refine z_aload_n d_Roo_addPair_35 rfl 36 rfl ?_
  refine z_get d_Roo_addPair_36 39 rfl fl_Roo_80_6 wc_3 rfl ?_
  refine z_aload_n d_Roo_addPair_39 rfl 40 rfl ?_
  refine z_aastoreT d_Roo_addPair_40 q 41 rfl wc_18 ((wl_tl i).trans hi) (kci_mem _) hq (by omega) (by decide) ?_
  refine z_hp ws_18 ?_
  refine z_aload_n d_Roo_addPair_41 rfl 42 rfl ?_
  refine z_get d_Roo_addPair_42 45 rfl fl_Roo_27_6 wc_3 rfl ?_
  refine z_aload_n d_Roo_addPair_45 rfl 46 rfl ?_
  refine z_get d_Roo_addPair_46 49 rfl fl_Roo_80_6 wc_3 rfl ?_
  refine z_aload_n d_Roo_addPair_49 rfl 50 rfl ?_
  refine z_aastoreT d_Roo_addPair_50 q 51 rfl wc_19 ((wl_tl j).trans hj) (kci_mem _) hq (by omega) (by decide) ?_
  refine z_hp ws_19 ?_
  refine z_aload_n d_Roo_addPair_51 rfl 52 rfl ?_
  refine z_dup d_Roo_addPair_52 rfl 53 rfl ?_
  refine z_get d_Roo_addPair_53 56 rfl fl_Roo_80_6 wc_3 rfl ?_
  refine z_iconst d_Roo_addPair_56 1 (by decide) 57 rfl ?_
  refine z_iadd d_Roo_addPair_57 58 rfl ?_
  refine z_putI d_Roo_addPair_58 61 rfl fp_Roo_80_6 (Or.inl rfl) wc_3 (by simp) ?_
  refine z_hp wp_3_8 ?_
  refine z_aload_n d_Roo_addPair_61 rfl 62 rfl ?_
  refine z_get d_Roo_addPair_62 65 rfl fl_Roo_80_6 wc_3 rfl ?_
  exact z_ireturn d_Roo_addPair_65 (rfl) (rfl)
set_option maxHeartbeats 400000 in
theorem r_Lir_twice_1 {tk : Int32} {tp bt crf nt : Nat → Int32} {T PF PS : Nat → Option Nat} {C : Nat → Nat → Int32} {rc g pp bn sc : Nat → Int32} {b : zR} {u : zU} {tl : List zC} {s : Nat → Int32} {n : Nat} (hn : sc 0 = nI n) (hn30 : n ≤ 30) (hTT : TT tl T s n) (t w : Int32) (h : inR t (sc 0) = false) : Ret 6 0 0 m_Lir_twice [.ref 0, .int t, .int w] (wld (tk, tp, bt, (T, C, rc, PF, PS, g, pp, bn, sc), b, crf, nt) u tl) (some (.int (-1))) (wld (tk, tp, bt, (T, C, rc, PF, PS, g, pp, bn, sc), b, rfu crf 1, nt) u tl) := by
  refine Ret.of (n := 2) (by decide) (rfl) rfl (fun X => ?_)
  refine z_aload_n d_Lir_twice_0 rfl 1 rfl ?_
  refine z_get d_Lir_twice_1 4 rfl fl_Lir_19_10 wc_0 rfl ?_
  refine z_iload_n d_Lir_twice_4 rfl 5 rfl ?_
  refine z_invv d_Lir_twice_5 8 rfl hm_Roo_tellingAt lk_Lir_74 im_Roo_tellingAt sl_Roo_Roo_tellingAt rfl wc_3 (r_Roo_tellingAt_n t h) rfl rfl (by decide) rfl rfl (Nat.le_of_ble_eq_true rfl) ?_
  refine z_astore_nN d_Lir_twice_8 9 rfl (by decide) rfl ?_
  refine z_aload_n d_Lir_twice_9 rfl 10 rfl ?_
  refine z_get d_Lir_twice_10 13 rfl fl_Lir_19_10 wc_0 rfl ?_
  refine z_iload_n d_Lir_twice_13 rfl 14 rfl ?_
  by_cases hv1 : inR w (sc 0) = true
  · obtain ⟨i2, hi2, rfl⟩ := inR_yes hv1 hn (by omega)
    have hci2 : (nI i2).toNatClampNeg = i2 := nI_clamp (by omega)
    obtain ⟨j3, hTj3, hjj3⟩ := hTT.1 i2 hi2
    have hPj3 : (wld (tk, tp, bt, (T, C, rc, PF, PS, g, pp, bn, sc), b, crf, nt) u tl)[51 + j3]? = some (tcell (fun k => s (6 + 6 * i2 + k))) := (wl_tl j3).trans hjj3
    refine z_invv d_Lir_twice_14 17 rfl hm_Roo_tellingAt lk_Lir_74 im_Roo_tellingAt sl_Roo_Roo_tellingAt rfl wc_3 (r_Roo_tellingAt_s hn hn30 i2 _ hi2 hTj3) rfl rfl (by decide) rfl rfl (Nat.le_of_ble_eq_true rfl) ?_
    refine z_astore d_Lir_twice_17 19 rfl (by decide) rfl ?_
    refine z_aload_nN d_Lir_twice_19 rfl 20 rfl ?_
    refine z_ifnullN d_Lir_twice_20 28 (by decide) ?_
    refine z_aload_n d_Lir_twice_28 rfl 29 rfl ?_
    refine z_iconst d_Lir_twice_29 (-1) (by decide) 30 rfl ?_
    refine z_invv d_Lir_twice_30 33 rfl hm_Lir_refuse lk_Lir_37 im_Lir_refuse sl_Lir_Lir_refuse rfl wc_0 (r_Lir_refuse (-1) 1 (by decide) (by decide)) rfl rfl (by decide) rfl rfl (Nat.le_of_ble_eq_true rfl) ?_
    exact z_ireturn d_Lir_twice_33 (rfl) (rfl)
  · have hv1 : inR w (sc 0) = false := by simpa using hv1
    refine z_invv d_Lir_twice_14 17 rfl hm_Roo_tellingAt lk_Lir_74 im_Roo_tellingAt sl_Roo_Roo_tellingAt rfl wc_3 (r_Roo_tellingAt_n _ hv1) rfl rfl (by decide) rfl rfl (Nat.le_of_ble_eq_true rfl) ?_
    refine z_astoreN d_Lir_twice_17 19 rfl (by decide) rfl ?_
    refine z_aload_nN d_Lir_twice_19 rfl 20 rfl ?_
    refine z_ifnullN d_Lir_twice_20 28 (by decide) ?_
    refine z_aload_n d_Lir_twice_28 rfl 29 rfl ?_
    refine z_iconst d_Lir_twice_29 (-1) (by decide) 30 rfl ?_
    refine z_invv d_Lir_twice_30 33 rfl hm_Lir_refuse lk_Lir_37 im_Lir_refuse sl_Lir_Lir_refuse rfl wc_0 (r_Lir_refuse (-1) 1 (by decide) (by decide)) rfl rfl (by decide) rfl rfl (Nat.le_of_ble_eq_true rfl) ?_
    exact z_ireturn d_Lir_twice_33 (rfl) (rfl)
set_option maxHeartbeats 400000 in
theorem r_Lir_twice_2 {tk : Int32} {tp bt crf nt : Nat → Int32} {T PF PS : Nat → Option Nat} {C : Nat → Nat → Int32} {rc g pp bn sc : Nat → Int32} {b : zR} {u : zU} {tl : List zC} {s : Nat → Int32} {n : Nat} (hn : sc 0 = nI n) (hn30 : n ≤ 30) (hTT : TT tl T s n) (a : Nat) (ha : a < n) (w : Int32) (h : inR w (sc 0) = false) : Ret 6 0 0 m_Lir_twice [.ref 0, .int (nI a), .int w] (wld (tk, tp, bt, (T, C, rc, PF, PS, g, pp, bn, sc), b, crf, nt) u tl) (some (.int (-1))) (wld (tk, tp, bt, (T, C, rc, PF, PS, g, pp, bn, sc), b, rfu crf 1, nt) u tl) := by
  obtain ⟨ja, hTa, hja⟩ := hTT.1 a ha
  refine Ret.of (n := 2) (by decide) (rfl) rfl (fun X => ?_)
  refine z_aload_n d_Lir_twice_0 rfl 1 rfl ?_
  refine z_get d_Lir_twice_1 4 rfl fl_Lir_19_10 wc_0 rfl ?_
  refine z_iload_n d_Lir_twice_4 rfl 5 rfl ?_
  refine z_invv d_Lir_twice_5 8 rfl hm_Roo_tellingAt lk_Lir_74 im_Roo_tellingAt sl_Roo_Roo_tellingAt rfl wc_3 (r_Roo_tellingAt_s hn hn30 a _ ha hTa) rfl rfl (by decide) rfl rfl (Nat.le_of_ble_eq_true rfl) ?_
  refine z_astore_n d_Lir_twice_8 9 rfl (by decide) rfl ?_
  refine z_aload_n d_Lir_twice_9 rfl 10 rfl ?_
  refine z_get d_Lir_twice_10 13 rfl fl_Lir_19_10 wc_0 rfl ?_
  refine z_iload_n d_Lir_twice_13 rfl 14 rfl ?_
  refine z_invv d_Lir_twice_14 17 rfl hm_Roo_tellingAt lk_Lir_74 im_Roo_tellingAt sl_Roo_Roo_tellingAt rfl wc_3 (r_Roo_tellingAt_n w h) rfl rfl (by decide) rfl rfl (Nat.le_of_ble_eq_true rfl) ?_
  refine z_astoreN d_Lir_twice_17 19 rfl (by decide) rfl ?_
  refine z_aload_n d_Lir_twice_19 rfl 20 rfl ?_
  refine z_ifnull d_Lir_twice_20 23 rfl ?_
  refine z_aloadN d_Lir_twice_23 rfl 25 rfl ?_
  refine z_ifnonnullN d_Lir_twice_25 28 rfl ?_
  refine z_aload_n d_Lir_twice_28 rfl 29 rfl ?_
  refine z_iconst d_Lir_twice_29 (-1) (by decide) 30 rfl ?_
  refine z_invv d_Lir_twice_30 33 rfl hm_Lir_refuse lk_Lir_37 im_Lir_refuse sl_Lir_Lir_refuse rfl wc_0 (r_Lir_refuse (-1) 1 (by decide) (by decide)) rfl rfl (by decide) rfl rfl (Nat.le_of_ble_eq_true rfl) ?_
  exact z_ireturn d_Lir_twice_33 (rfl) (rfl)
set_option maxHeartbeats 400000 in
theorem r_Lir_twice_3 {tk : Int32} {tp bt crf nt : Nat → Int32} {T PF PS : Nat → Option Nat} {C : Nat → Nat → Int32} {rc g pp bn sc : Nat → Int32} {b : zR} {u : zU} {tl : List zC} {s : Nat → Int32} {n : Nat} (hn : sc 0 = nI n) (hn30 : n ≤ 30) (hTT : TT tl T s n) (a e : Nat) (ha : a < n) (he : e < n) (hy : s (6 + 6 * e + 4) ≤ s (6 + 6 * a + 4)) : Ret 6 0 0 m_Lir_twice [.ref 0, .int (nI a), .int (nI e)] (wld (tk, tp, bt, (T, C, rc, PF, PS, g, pp, bn, sc), b, crf, nt) u tl) (some (.int (-3))) (wld (tk, tp, bt, (T, C, rc, PF, PS, g, pp, bn, sc), b, rfu crf 3, nt) u tl) := by
  obtain ⟨ja, hTa, hja⟩ := hTT.1 a ha
  obtain ⟨je, hTe, hje⟩ := hTT.1 e he
  refine Ret.of (n := 2) (by decide) (rfl) rfl (fun X => ?_)
  refine z_aload_n d_Lir_twice_0 rfl 1 rfl ?_
  refine z_get d_Lir_twice_1 4 rfl fl_Lir_19_10 wc_0 rfl ?_
  refine z_iload_n d_Lir_twice_4 rfl 5 rfl ?_
  refine z_invv d_Lir_twice_5 8 rfl hm_Roo_tellingAt lk_Lir_74 im_Roo_tellingAt sl_Roo_Roo_tellingAt rfl wc_3 (r_Roo_tellingAt_s hn hn30 a _ ha hTa) rfl rfl (by decide) rfl rfl (Nat.le_of_ble_eq_true rfl) ?_
  refine z_astore_n d_Lir_twice_8 9 rfl (by decide) rfl ?_
  refine z_aload_n d_Lir_twice_9 rfl 10 rfl ?_
  refine z_get d_Lir_twice_10 13 rfl fl_Lir_19_10 wc_0 rfl ?_
  refine z_iload_n d_Lir_twice_13 rfl 14 rfl ?_
  refine z_invv d_Lir_twice_14 17 rfl hm_Roo_tellingAt lk_Lir_74 im_Roo_tellingAt sl_Roo_Roo_tellingAt rfl wc_3 (r_Roo_tellingAt_s hn hn30 e _ he hTe) rfl rfl (by decide) rfl rfl (Nat.le_of_ble_eq_true rfl) ?_
  refine z_astore d_Lir_twice_17 19 rfl (by decide) rfl ?_
  refine z_aload_n d_Lir_twice_19 rfl 20 rfl ?_
  refine z_ifnull d_Lir_twice_20 23 rfl ?_
  refine z_aload d_Lir_twice_23 rfl 25 rfl ?_
  refine z_ifnonnull d_Lir_twice_25 34 (by decide) ?_
  refine z_aload d_Lir_twice_34 rfl 36 rfl ?_
  refine z_get d_Lir_twice_36 39 rfl (flT_Lir_92 (kci_mem _)) ((wl_tl je).trans hje) rfl ?_
  refine z_aload_n d_Lir_twice_39 rfl 40 rfl ?_
  refine z_get d_Lir_twice_40 43 rfl (flT_Lir_92 (kci_mem _)) ((wl_tl ja).trans hja) rfl ?_
  refine z_icmp_gt d_Lir_twice_43 53 46 (by decide) rfl (fun hzz => absurd hzz (Int32.not_lt.mpr hy)) (fun h1 => ?_)
  refine z_aload_n d_Lir_twice_46 rfl 47 rfl ?_
  refine z_bipush d_Lir_twice_47 (-3) (by decide) 49 rfl ?_
  refine z_invv d_Lir_twice_49 52 rfl hm_Lir_refuse lk_Lir_37 im_Lir_refuse sl_Lir_Lir_refuse rfl wc_0 (r_Lir_refuse (-3) 3 (by decide) (by decide)) rfl rfl (by decide) rfl rfl (Nat.le_of_ble_eq_true rfl) ?_
  exact z_ireturn d_Lir_twice_52 (rfl) (rfl)
set_option maxHeartbeats 400000 in
theorem r_Lir_twice_6 {tk : Int32} {tp bt crf nt : Nat → Int32} {T PF PS : Nat → Option Nat} {C : Nat → Nat → Int32} {rc g pp bn sc : Nat → Int32} {b : zR} {u : zU} {tl : List zC} {s : Nat → Int32} {n : Nat} (hn : sc 0 = nI n) (hn30 : n ≤ 30) (hTT : TT tl T s n) (a e : Nat) (ha : a < n) (he : e < n) (hy : ¬ s (6 + 6 * e + 4) ≤ s (6 + 6 * a + 4)) (hq : 10 ≤ sc 1) : Ret 6 0 0 m_Lir_twice [.ref 0, .int (nI a), .int (nI e)] (wld (tk, tp, bt, (T, C, rc, PF, PS, g, pp, bn, sc), b, crf, nt) u tl) (some (.int (-6))) (wld (tk, tp, bt, (T, C, rc, PF, PS, g, pp, bn, sc), b, rfu crf 6, nt) u tl) := by
  obtain ⟨ja, hTa, hja⟩ := hTT.1 a ha
  obtain ⟨je, hTe, hje⟩ := hTT.1 e he
  refine Ret.of (n := 2) (by decide) (rfl) rfl (fun X => ?_)
  refine z_aload_n d_Lir_twice_0 rfl 1 rfl ?_
  refine z_get d_Lir_twice_1 4 rfl fl_Lir_19_10 wc_0 rfl ?_
  refine z_iload_n d_Lir_twice_4 rfl 5 rfl ?_
  refine z_invv d_Lir_twice_5 8 rfl hm_Roo_tellingAt lk_Lir_74 im_Roo_tellingAt sl_Roo_Roo_tellingAt rfl wc_3 (r_Roo_tellingAt_s hn hn30 a _ ha hTa) rfl rfl (by decide) rfl rfl (Nat.le_of_ble_eq_true rfl) ?_
  refine z_astore_n d_Lir_twice_8 9 rfl (by decide) rfl ?_
  refine z_aload_n d_Lir_twice_9 rfl 10 rfl ?_
  refine z_get d_Lir_twice_10 13 rfl fl_Lir_19_10 wc_0 rfl ?_
  refine z_iload_n d_Lir_twice_13 rfl 14 rfl ?_
  refine z_invv d_Lir_twice_14 17 rfl hm_Roo_tellingAt lk_Lir_74 im_Roo_tellingAt sl_Roo_Roo_tellingAt rfl wc_3 (r_Roo_tellingAt_s hn hn30 e _ he hTe) rfl rfl (by decide) rfl rfl (Nat.le_of_ble_eq_true rfl) ?_
  refine z_astore d_Lir_twice_17 19 rfl (by decide) rfl ?_
  refine z_aload_n d_Lir_twice_19 rfl 20 rfl ?_
  refine z_ifnull d_Lir_twice_20 23 rfl ?_
  refine z_aload d_Lir_twice_23 rfl 25 rfl ?_
  refine z_ifnonnull d_Lir_twice_25 34 (by decide) ?_
  refine z_aload d_Lir_twice_34 rfl 36 rfl ?_
  refine z_get d_Lir_twice_36 39 rfl (flT_Lir_92 (kci_mem _)) ((wl_tl je).trans hje) rfl ?_
  refine z_aload_n d_Lir_twice_39 rfl 40 rfl ?_
  refine z_get d_Lir_twice_40 43 rfl (flT_Lir_92 (kci_mem _)) ((wl_tl ja).trans hja) rfl ?_
  refine z_icmp_gt d_Lir_twice_43 53 46 (by decide) rfl (fun h1 => ?_) (fun hzz => absurd (Int32.not_le.mp hy) hzz)
  refine z_aload_n d_Lir_twice_53 rfl 54 rfl ?_
  refine z_get d_Lir_twice_54 57 rfl fl_Lir_19_10 wc_0 rfl ?_
  refine z_get d_Lir_twice_57 60 rfl fl_Lir_194_6 wc_3 rfl ?_
  refine z_bipush d_Lir_twice_60 10 (by decide) 62 rfl ?_
  refine z_icmp_lt d_Lir_twice_62 74 65 (by decide) rfl (fun hzz => absurd hzz (Int32.not_lt.mpr hq)) (fun h2 => ?_)
  refine z_aload_n d_Lir_twice_65 rfl 66 rfl ?_
  refine z_bipush d_Lir_twice_66 (-6) (by decide) 68 rfl ?_
  refine z_invv d_Lir_twice_68 71 rfl hm_Lir_refuse lk_Lir_37 im_Lir_refuse sl_Lir_Lir_refuse rfl wc_0 (r_Lir_refuse (-6) 6 (by decide) (by decide)) rfl rfl (by decide) rfl rfl (Nat.le_of_ble_eq_true rfl) ?_
  refine z_goto d_Lir_twice_71 84 (by decide) ?_
  exact z_ireturn d_Lir_twice_84 (rfl) (rfl)
set_option maxHeartbeats 400000 in
theorem r_Lir_twice_0 {tk : Int32} {tp bt crf nt : Nat → Int32} {T PF PS : Nat → Option Nat} {C : Nat → Nat → Int32} {rc g pp bn sc : Nat → Int32} {b : zR} {u : zU} {tl : List zC} {s : Nat → Int32} {n : Nat} (hn : sc 0 = nI n) (hn30 : n ≤ 30) (hTT : TT tl T s n) (a e : Nat) (ha : a < n) (he : e < n) (hy : ¬ s (6 + 6 * e + 4) ≤ s (6 + 6 * a + 4)) (q : Nat) (hq : sc 1 = nI q) (hq10 : q < 10) : Ret 6 0 0 m_Lir_twice [.ref 0, .int (nI a), .int (nI e)] (wld (tk, tp, bt, (T, C, rc, PF, PS, g, pp, bn, sc), b, crf, nt) u tl) (some (.int (sc 1 + 1))) (wld (tk, tp, bt, (T, C, rc, va_up PF q (T a), va_up PS q (T e), g, pp, bn, upd sc 1 (sc 1 + 1)), b, crf, nt) u tl) := by
  obtain ⟨ja, hTa, hja⟩ := hTT.1 a ha
  obtain ⟨je, hTe, hje⟩ := hTT.1 e he
  rw [hTa, hTe]
  refine Ret.of (n := 2) (by decide) (rfl) rfl (fun X => ?_)
  refine z_aload_n d_Lir_twice_0 rfl 1 rfl ?_
  refine z_get d_Lir_twice_1 4 rfl fl_Lir_19_10 wc_0 rfl ?_
  refine z_iload_n d_Lir_twice_4 rfl 5 rfl ?_
  refine z_invv d_Lir_twice_5 8 rfl hm_Roo_tellingAt lk_Lir_74 im_Roo_tellingAt sl_Roo_Roo_tellingAt rfl wc_3 (r_Roo_tellingAt_s hn hn30 a _ ha hTa) rfl rfl (by decide) rfl rfl (Nat.le_of_ble_eq_true rfl) ?_
  refine z_astore_n d_Lir_twice_8 9 rfl (by decide) rfl ?_
  refine z_aload_n d_Lir_twice_9 rfl 10 rfl ?_
  refine z_get d_Lir_twice_10 13 rfl fl_Lir_19_10 wc_0 rfl ?_
  refine z_iload_n d_Lir_twice_13 rfl 14 rfl ?_
  refine z_invv d_Lir_twice_14 17 rfl hm_Roo_tellingAt lk_Lir_74 im_Roo_tellingAt sl_Roo_Roo_tellingAt rfl wc_3 (r_Roo_tellingAt_s hn hn30 e _ he hTe) rfl rfl (by decide) rfl rfl (Nat.le_of_ble_eq_true rfl) ?_
  refine z_astore d_Lir_twice_17 19 rfl (by decide) rfl ?_
  refine z_aload_n d_Lir_twice_19 rfl 20 rfl ?_
  refine z_ifnull d_Lir_twice_20 23 rfl ?_
  refine z_aload d_Lir_twice_23 rfl 25 rfl ?_
  refine z_ifnonnull d_Lir_twice_25 34 (by decide) ?_
  refine z_aload d_Lir_twice_34 rfl 36 rfl ?_
  refine z_get d_Lir_twice_36 39 rfl (flT_Lir_92 (kci_mem _)) ((wl_tl je).trans hje) rfl ?_
  refine z_aload_n d_Lir_twice_39 rfl 40 rfl ?_
  refine z_get d_Lir_twice_40 43 rfl (flT_Lir_92 (kci_mem _)) ((wl_tl ja).trans hja) rfl ?_
  refine z_icmp_gt d_Lir_twice_43 53 46 (by decide) rfl (fun h1 => ?_) (fun hzz => absurd (Int32.not_le.mp hy) hzz)
  refine z_aload_n d_Lir_twice_53 rfl 54 rfl ?_
  refine z_get d_Lir_twice_54 57 rfl fl_Lir_19_10 wc_0 rfl ?_
  refine z_get d_Lir_twice_57 60 rfl fl_Lir_194_6 wc_3 rfl ?_
  refine z_bipush d_Lir_twice_60 10 (by decide) 62 rfl ?_
  refine z_icmp_lt d_Lir_twice_62 74 65 (by decide) rfl (fun h2 => ?_) (fun hzz => absurd (by rw [hq]; exact (show nI q < nI 10 from nI_lt hq10 (by decide))) hzz)
  refine z_aload_n d_Lir_twice_74 rfl 75 rfl ?_
  refine z_get d_Lir_twice_75 78 rfl fl_Lir_19_10 wc_0 rfl ?_
  refine z_aload_n d_Lir_twice_78 rfl 79 rfl ?_
  refine z_aload d_Lir_twice_79 rfl 81 rfl ?_
  refine z_invv d_Lir_twice_81 84 rfl hm_Roo_addPair lk_Lir_197 im_Roo_addPair sl_Roo_Roo_addPair rfl wc_3 (r_Roo_addPair ja je q hja hje hq hq10) rfl rfl (by decide) rfl rfl (Nat.le_of_ble_eq_true rfl) ?_
  exact z_ireturn d_Lir_twice_84 (rfl) (rfl)
set_option maxHeartbeats 400000 in
theorem r_Lir_together_1 {tk : Int32} {tp bt crf nt : Nat → Int32} {T PF PS : Nat → Option Nat} {C : Nat → Nat → Int32} {rc g pp bn sc : Nat → Int32} {b : zR} {u : zU} {tl : List zC}  (a e : Int32) (h : inR a 8 = false) : Ret 6 0 0 m_Lir_together [.ref 0, .int a, .int e] (wld (tk, tp, bt, (T, C, rc, PF, PS, g, pp, bn, sc), b, crf, nt) u tl) (some (.int (1000000001))) (wld (tk, tp, bt, (T, C, rc, PF, PS, g, pp, bn, sc), b, rfu crf 1, nt) u tl) := by
  refine Ret.of (n := 9) (by decide) (rfl) rfl (fun X => ?_)
  refine z_iload_n d_Lir_together_0 rfl 1 rfl ?_
  refine z_invs d_Lir_together_1 4 rfl hm_Lir_isMark lk_Lir_185 st_Lir_isMark (r_Lir_isMark _) rfl rfl (by decide) rfl rfl (Nat.le_of_ble_eq_true rfl) ?_
  refine z_if_eq d_Lir_together_4 14 7 (by decide) rfl (fun h1 => ?_) (fun hzz => absurd (by rw [h]; rfl) hzz)
  refine z_aload_n d_Lir_together_14 rfl 15 rfl ?_
  refine z_iconst d_Lir_together_15 (-1) (by decide) 16 rfl ?_
  refine z_invv d_Lir_together_16 19 rfl hm_Lir_refuseAsTold lk_Lir_139 im_Lir_refuseAsTold sl_Lir_Lir_refuseAsTold rfl wc_0 (r_Lir_refuseAsTold (-1) 1 (by decide) (by decide)) rfl rfl (by decide) rfl rfl (Nat.le_of_ble_eq_true rfl) ?_
  exact z_ireturn d_Lir_together_19 (rfl) (rfl)
set_option maxHeartbeats 400000 in
theorem r_Lir_together_2 {tk : Int32} {tp bt crf nt : Nat → Int32} {T PF PS : Nat → Option Nat} {C : Nat → Nat → Int32} {rc g pp bn sc : Nat → Int32} {b : zR} {u : zU} {tl : List zC}  (a e : Int32) (h : inR a 8 = true) (h2 : inR e 8 = false) : Ret 6 0 0 m_Lir_together [.ref 0, .int a, .int e] (wld (tk, tp, bt, (T, C, rc, PF, PS, g, pp, bn, sc), b, crf, nt) u tl) (some (.int (1000000001))) (wld (tk, tp, bt, (T, C, rc, PF, PS, g, pp, bn, sc), b, rfu crf 1, nt) u tl) := by
  refine Ret.of (n := 9) (by decide) (rfl) rfl (fun X => ?_)
  refine z_iload_n d_Lir_together_0 rfl 1 rfl ?_
  refine z_invs d_Lir_together_1 4 rfl hm_Lir_isMark lk_Lir_185 st_Lir_isMark (r_Lir_isMark _) rfl rfl (by decide) rfl rfl (Nat.le_of_ble_eq_true rfl) ?_
  refine z_if_eq d_Lir_together_4 14 7 (by decide) rfl (fun hzz => absurd hzz (by rw [h]; decide)) (fun h1 => ?_)
  refine z_iload_n d_Lir_together_7 rfl 8 rfl ?_
  refine z_invs d_Lir_together_8 11 rfl hm_Lir_isMark lk_Lir_185 st_Lir_isMark (r_Lir_isMark _) rfl rfl (by decide) rfl rfl (Nat.le_of_ble_eq_true rfl) ?_
  refine z_if_ne d_Lir_together_11 20 14 (by decide) rfl (fun hzz => absurd (by rw [h2]; decide) hzz) (fun h2 => ?_)
  refine z_aload_n d_Lir_together_14 rfl 15 rfl ?_
  refine z_iconst d_Lir_together_15 (-1) (by decide) 16 rfl ?_
  refine z_invv d_Lir_together_16 19 rfl hm_Lir_refuseAsTold lk_Lir_139 im_Lir_refuseAsTold sl_Lir_Lir_refuseAsTold rfl wc_0 (r_Lir_refuseAsTold (-1) 1 (by decide) (by decide)) rfl rfl (by decide) rfl rfl (Nat.le_of_ble_eq_true rfl) ?_
  exact z_ireturn d_Lir_together_19 (rfl) (rfl)
set_option maxHeartbeats 400000 in
theorem r_Lir_together_0 {tk : Int32} {tp bt crf nt : Nat → Int32} {T PF PS : Nat → Option Nat} {C : Nat → Nat → Int32} {rc g pp bn sc : Nat → Int32} {b : zR} {u : zU} {tl : List zC} {s : Nat → Int32} {n : Nat} (hn : sc 0 = nI n) (hn30 : n ≤ 30) (hTT : TT tl T s n) (a e : Int32) (h : inR a 8 = true) (h2 : inR e 8 = true) : Ret 6 0 0 m_Lir_together [.ref 0, .int a, .int e] (wld (tk, tp, bt, (T, C, rc, PF, PS, g, pp, bn, sc), b, crf, nt) u tl) (some (.int ((if sm (fun i => if mkd (s (6 + 6 * i + 3)) a = true then 1 else 0) n = 0 then 1000000003 else (if sm (fun i => if mkd (s (6 + 6 * i + 3)) a = true then 0 else 1) n = 0 then 1000000003 else (if sm (fun i => if mkd (s (6 + 6 * i + 3)) a = true then 1 else 0) n < 1 then 0 else 100 * sm (fun i => if mkd (s (6 + 6 * i + 3)) a = true then (if mkd (s (6 + 6 * i + 3)) e = true then 1 else 0) else 0) n / sm (fun i => if mkd (s (6 + 6 * i + 3)) a = true then 1 else 0) n) - (if sm (fun i => if mkd (s (6 + 6 * i + 3)) a = true then 0 else 1) n < 1 then 0 else 100 * sm (fun i => if mkd (s (6 + 6 * i + 3)) a = true then 0 else (if mkd (s (6 + 6 * i + 3)) e = true then 1 else 0)) n / sm (fun i => if mkd (s (6 + 6 * i + 3)) a = true then 0 else 1) n)))))) (wld (tk, tp, bt, (T, C, rc, PF, PS, g, pp, bn, sc), b, (if sm (fun i => if mkd (s (6 + 6 * i + 3)) a = true then 1 else 0) n = 0 then rfu crf 3 else (if sm (fun i => if mkd (s (6 + 6 * i + 3)) a = true then 0 else 1) n = 0 then rfu crf 3 else crf)), nt) u tl) := by
  refine Ret.of (n := 9) (by decide) (rfl) rfl (fun X => ?_)
  refine z_iload_n d_Lir_together_0 rfl 1 rfl ?_
  refine z_invs d_Lir_together_1 4 rfl hm_Lir_isMark lk_Lir_185 st_Lir_isMark (r_Lir_isMark _) rfl rfl (by decide) rfl rfl (Nat.le_of_ble_eq_true rfl) ?_
  refine z_if_eq d_Lir_together_4 14 7 (by decide) rfl (fun hzz => absurd hzz (by rw [h]; decide)) (fun h1 => ?_)
  refine z_iload_n d_Lir_together_7 rfl 8 rfl ?_
  refine z_invs d_Lir_together_8 11 rfl hm_Lir_isMark lk_Lir_185 st_Lir_isMark (r_Lir_isMark _) rfl rfl (by decide) rfl rfl (Nat.le_of_ble_eq_true rfl) ?_
  refine z_if_ne d_Lir_together_11 20 14 (by decide) rfl (fun h2 => ?_) (fun hzz => absurd hzz (by rw [h2]; decide))
  refine z_iconst d_Lir_together_20 0 (by decide) 21 rfl ?_
  refine z_istore_n d_Lir_together_21 22 rfl (by decide) rfl ?_
  refine z_iconst d_Lir_together_22 0 (by decide) 23 rfl ?_
  refine z_istore d_Lir_together_23 25 rfl (by decide) rfl ?_
  refine z_iconst d_Lir_together_25 0 (by decide) 26 rfl ?_
  refine z_istore d_Lir_together_26 28 rfl (by decide) rfl ?_
  refine z_iconst d_Lir_together_28 0 (by decide) 29 rfl ?_
  refine z_istore d_Lir_together_29 31 rfl (by decide) rfl ?_
  refine z_aload_n d_Lir_together_31 rfl 32 rfl ?_
  refine z_get d_Lir_together_32 35 rfl fl_Lir_19_10 wc_0 rfl ?_
  refine z_get d_Lir_together_35 38 rfl fl_Lir_145_6 wc_3 rfl ?_
  refine z_astore d_Lir_together_38 40 rfl (by decide) rfl ?_
  refine z_aload d_Lir_together_40 rfl 42 rfl ?_
  refine z_alenR d_Lir_together_42 43 rfl wc_4 (by decide) 30 (by decide) ?_
  refine z_istore d_Lir_together_43 45 rfl (by decide) rfl ?_
  refine z_iconst d_Lir_together_45 0 (by decide) 46 rfl ?_
  refine z_istore d_Lir_together_46 48 rfl (by decide) rfl ?_
  refine z_Lw ([some (.ref 0), some (.int a), some (.int e), some (.int (sm (fun i => if mkd (s (6 + 6 * i + 3)) a = true then 1 else 0) (min 0 n))), some (.int (sm (fun i => if mkd (s (6 + 6 * i + 3)) a = true then (if mkd (s (6 + 6 * i + 3)) e = true then 1 else 0) else 0) (min 0 n))), some (.int (sm (fun i => if mkd (s (6 + 6 * i + 3)) a = true then 0 else 1) (min 0 n))), some (.int (sm (fun i => if mkd (s (6 + 6 * i + 3)) a = true then 0 else (if mkd (s (6 + 6 * i + 3)) e = true then 1 else 0)) (min 0 n))), some (.ref 4), some (.int 30), some (.int (nI 0)), none, none]) (by simp only [smm_0]; simp [zLw, List.set, zargs, nI_0]) ?_
  refine zloop (fun i => Z X m_Lir_together 6 0 0 (some (.int ((if sm (fun i => if mkd (s (6 + 6 * i + 3)) a = true then 1 else 0) n = 0 then 1000000003 else (if sm (fun i => if mkd (s (6 + 6 * i + 3)) a = true then 0 else 1) n = 0 then 1000000003 else (if sm (fun i => if mkd (s (6 + 6 * i + 3)) a = true then 1 else 0) n < 1 then 0 else 100 * sm (fun i => if mkd (s (6 + 6 * i + 3)) a = true then (if mkd (s (6 + 6 * i + 3)) e = true then 1 else 0) else 0) n / sm (fun i => if mkd (s (6 + 6 * i + 3)) a = true then 1 else 0) n) - (if sm (fun i => if mkd (s (6 + 6 * i + 3)) a = true then 0 else 1) n < 1 then 0 else 100 * sm (fun i => if mkd (s (6 + 6 * i + 3)) a = true then 0 else (if mkd (s (6 + 6 * i + 3)) e = true then 1 else 0)) n / sm (fun i => if mkd (s (6 + 6 * i + 3)) a = true then 0 else 1) n)))))) (wld (tk, tp, bt, (T, C, rc, PF, PS, g, pp, bn, sc), b, (if sm (fun i => if mkd (s (6 + 6 * i + 3)) a = true then 1 else 0) n = 0 then rfu crf 3 else (if sm (fun i => if mkd (s (6 + 6 * i + 3)) a = true then 0 else 1) n = 0 then rfu crf 3 else crf)), nt) u tl) 48 [some (.ref 0), some (.int a), some (.int e), some (.int (sm (fun i => if mkd (s (6 + 6 * i + 3)) a = true then 1 else 0) (min i n))), some (.int (sm (fun i => if mkd (s (6 + 6 * i + 3)) a = true then (if mkd (s (6 + 6 * i + 3)) e = true then 1 else 0) else 0) (min i n))), some (.int (sm (fun i => if mkd (s (6 + 6 * i + 3)) a = true then 0 else 1) (min i n))), some (.int (sm (fun i => if mkd (s (6 + 6 * i + 3)) a = true then 0 else (if mkd (s (6 + 6 * i + 3)) e = true then 1 else 0)) (min i n))), some (.ref 4), some (.int 30), some (.int (nI i)), none, none] [] (wld (tk, tp, bt, (T, C, rc, PF, PS, g, pp, bn, sc), b, crf, nt) u tl)) (30) ?_ ?_ 0 (Nat.zero_le _)
  · simp only [smm_30 hn30]
    refine z_iload d_Lir_together_48 rfl 50 rfl ?_
    refine z_iload d_Lir_together_50 rfl 52 rfl ?_
    refine z_icmp_ge d_Lir_together_52 121 55 (by decide) rfl (fun h3 => ?_) (fun hzz => absurd (by decide) hzz)
    refine z_iload_n d_Lir_together_121 rfl 122 rfl ?_
    refine z_if_eq d_Lir_together_122 130 125 (by decide) rfl (fun h4 => ?_) (fun h4 => ?_)
    · have e0 : sm (fun i => if mkd (s (6 + 6 * i + 3)) a = true then 1 else 0) n = 0 := h4
      refine z_aload_n d_Lir_together_130 rfl 131 rfl ?_
      refine z_bipush d_Lir_together_131 (-3) (by decide) 133 rfl ?_
      refine z_invv d_Lir_together_133 136 rfl hm_Lir_refuseAsTold lk_Lir_139 im_Lir_refuseAsTold sl_Lir_Lir_refuseAsTold rfl wc_0 (r_Lir_refuseAsTold (-3) 3 (by decide) (by decide)) rfl rfl (by decide) rfl rfl (Nat.le_of_ble_eq_true rfl) ?_
      exact z_ireturn d_Lir_together_136 (by first | rw [if_pos e0]; rfl | (rw [if_neg e0]; first | rw [if_pos e1]; rfl | rw [if_neg e1])) (by first | rw [if_pos e0] | (rw [if_neg e0]; first | rw [if_pos e1] | rw [if_neg e1]))
    · have e0 : ¬ sm (fun i => if mkd (s (6 + 6 * i + 3)) a = true then 1 else 0) n = 0 := h4
      refine z_iload d_Lir_together_125 rfl 127 rfl ?_
      refine z_if_ne d_Lir_together_127 137 130 (by decide) rfl (fun h5 => ?_) (fun h5 => ?_)
      · have e1 : ¬ sm (fun i => if mkd (s (6 + 6 * i + 3)) a = true then 0 else 1) n = 0 := h5
        refine z_iload d_Lir_together_137 rfl 139 rfl ?_
        refine z_iload_n d_Lir_together_139 rfl 140 rfl ?_
        refine z_invs d_Lir_together_140 143 rfl hm_Lir_hundredths lk_Lir_191 st_Lir_hundredths (r_Lir_hundredths _ _) rfl rfl (by decide) rfl rfl (Nat.le_of_ble_eq_true rfl) ?_
        refine z_iload d_Lir_together_143 rfl 145 rfl ?_
        refine z_iload d_Lir_together_145 rfl 147 rfl ?_
        refine z_invs d_Lir_together_147 150 rfl hm_Lir_hundredths lk_Lir_191 st_Lir_hundredths (r_Lir_hundredths _ _) rfl rfl (by decide) rfl rfl (Nat.le_of_ble_eq_true rfl) ?_
        refine z_isub d_Lir_together_150 151 rfl ?_
        exact z_ireturn d_Lir_together_151 (by first | rw [if_pos e0]; rfl | (rw [if_neg e0]; first | rw [if_pos e1]; rfl | rw [if_neg e1])) (by first | rw [if_pos e0] | (rw [if_neg e0]; first | rw [if_pos e1] | rw [if_neg e1]))
      · have e1 : sm (fun i => if mkd (s (6 + 6 * i + 3)) a = true then 0 else 1) n = 0 := h5
        refine z_aload_n d_Lir_together_130 rfl 131 rfl ?_
        refine z_bipush d_Lir_together_131 (-3) (by decide) 133 rfl ?_
        refine z_invv d_Lir_together_133 136 rfl hm_Lir_refuseAsTold lk_Lir_139 im_Lir_refuseAsTold sl_Lir_Lir_refuseAsTold rfl wc_0 (r_Lir_refuseAsTold (-3) 3 (by decide) (by decide)) rfl rfl (by decide) rfl rfl (Nat.le_of_ble_eq_true rfl) ?_
        exact z_ireturn d_Lir_together_136 (by first | rw [if_pos e0]; rfl | (rw [if_neg e0]; first | rw [if_pos e1]; rfl | rw [if_neg e1])) (by first | rw [if_pos e0] | (rw [if_neg e0]; first | rw [if_pos e1] | rw [if_neg e1]))
  · intro i hi ih
    refine z_iload d_Lir_together_48 rfl 50 rfl ?_
    refine z_iload d_Lir_together_50 rfl 52 rfl ?_
    refine z_icmp_ge d_Lir_together_52 121 55 (by decide) rfl (fun hzz => absurd hzz (show ¬ nI 30 ≤ nI i from nI_ge hi (by decide))) (fun h6 => ?_)
    refine z_aload d_Lir_together_55 rfl 57 rfl ?_
    refine z_iload d_Lir_together_57 rfl 59 rfl ?_
    rcases Nat.lt_or_ge i n with hin | hin
    · obtain ⟨j, hTi, hj⟩ := hTT.1 i hin
      have hP : (wld (tk, tp, bt, (T, C, rc, PF, PS, g, pp, bn, sc), b, crf, nt) u tl)[51 + j]? = some (tcell (fun k => s (6 + 6 * i + k))) := (wl_tl j).trans hj
      refine z_aaload d_Lir_together_59 (i) 60 rfl wc_4 (Or.inr rfl) rfl (by omega) (by decide) (by rw [hTi]) ?_
      refine z_astore d_Lir_together_60 62 rfl (by decide) rfl ?_
      refine z_aload d_Lir_together_62 rfl 64 rfl ?_
      refine z_ifnull d_Lir_together_64 67 rfl ?_
      refine z_aload d_Lir_together_67 rfl 69 rfl ?_
      refine z_iload_n d_Lir_together_69 rfl 70 rfl ?_
      refine z_invT d_Lir_together_70 73 rfl hm_Tel_has lk_Lir_188 sm_Tel_has im_Tel_has (selT_has (kci_mem _)) hP (r_Tel_has _ _ hP _) rfl rfl (by decide) rfl rfl (Nat.le_of_ble_eq_true rfl) ?_
      refine z_if_eq d_Lir_together_73 80 76 (by decide) rfl (fun h7 => ?_) (fun h7 => ?_)
      · have e1 : mkd (s (6 + 6 * i + 3)) e = false := (zb_eq _).mp h7
        refine z_iconst d_Lir_together_80 0 (by decide) 81 rfl ?_
        refine z_istore d_Lir_together_81 83 rfl (by decide) rfl ?_
        refine z_aload d_Lir_together_83 rfl 85 rfl ?_
        refine z_iload_n d_Lir_together_85 rfl 86 rfl ?_
        refine z_invT d_Lir_together_86 89 rfl hm_Tel_has lk_Lir_188 sm_Tel_has im_Tel_has (selT_has (kci_mem _)) hP (r_Tel_has _ _ hP _) rfl rfl (by decide) rfl rfl (Nat.le_of_ble_eq_true rfl) ?_
        refine z_if_eq d_Lir_together_89 105 92 (by decide) rfl (fun h8 => ?_) (fun h8 => ?_)
        · have e0 : mkd (s (6 + 6 * i + 3)) a = false := (zb_eq _).mp h8
          refine z_iinc d_Lir_together_105 1 (by decide) 108 rfl rfl (by decide) rfl ?_
          refine z_iload d_Lir_together_108 rfl 110 rfl ?_
          refine z_iload d_Lir_together_110 rfl 112 rfl ?_
          refine z_iadd d_Lir_together_112 113 rfl ?_
          refine z_istore d_Lir_together_113 115 rfl (by decide) rfl ?_
          refine z_iinc d_Lir_together_115 1 (by decide) 118 rfl rfl (by decide) rfl ?_
          refine z_goto d_Lir_together_118 48 (by decide) ?_
          exact z_Lg _ ih (by simp only [smm_lt hin]; simp [zLw, List.set, nI_succ, e0, e1])
        · have e0 : mkd (s (6 + 6 * i + 3)) a = true := (zb_ne _).mp h8
          refine z_iinc d_Lir_together_92 1 (by decide) 95 rfl rfl (by decide) rfl ?_
          refine z_iload d_Lir_together_95 rfl 97 rfl ?_
          refine z_iload d_Lir_together_97 rfl 99 rfl ?_
          refine z_iadd d_Lir_together_99 100 rfl ?_
          refine z_istore d_Lir_together_100 102 rfl (by decide) rfl ?_
          refine z_goto d_Lir_together_102 115 (by decide) ?_
          refine z_iinc d_Lir_together_115 1 (by decide) 118 rfl rfl (by decide) rfl ?_
          refine z_goto d_Lir_together_118 48 (by decide) ?_
          exact z_Lg _ ih (by simp only [smm_lt hin]; simp [zLw, List.set, nI_succ, e0, e1])
      · have e1 : mkd (s (6 + 6 * i + 3)) e = true := (zb_ne _).mp h7
        refine z_iconst d_Lir_together_76 1 (by decide) 77 rfl ?_
        refine z_goto d_Lir_together_77 81 (by decide) ?_
        refine z_istore d_Lir_together_81 83 rfl (by decide) rfl ?_
        refine z_aload d_Lir_together_83 rfl 85 rfl ?_
        refine z_iload_n d_Lir_together_85 rfl 86 rfl ?_
        refine z_invT d_Lir_together_86 89 rfl hm_Tel_has lk_Lir_188 sm_Tel_has im_Tel_has (selT_has (kci_mem _)) hP (r_Tel_has _ _ hP _) rfl rfl (by decide) rfl rfl (Nat.le_of_ble_eq_true rfl) ?_
        refine z_if_eq d_Lir_together_89 105 92 (by decide) rfl (fun h9 => ?_) (fun h9 => ?_)
        · have e0 : mkd (s (6 + 6 * i + 3)) a = false := (zb_eq _).mp h9
          refine z_iinc d_Lir_together_105 1 (by decide) 108 rfl rfl (by decide) rfl ?_
          refine z_iload d_Lir_together_108 rfl 110 rfl ?_
          refine z_iload d_Lir_together_110 rfl 112 rfl ?_
          refine z_iadd d_Lir_together_112 113 rfl ?_
          refine z_istore d_Lir_together_113 115 rfl (by decide) rfl ?_
          refine z_iinc d_Lir_together_115 1 (by decide) 118 rfl rfl (by decide) rfl ?_
          refine z_goto d_Lir_together_118 48 (by decide) ?_
          exact z_Lg _ ih (by simp only [smm_lt hin]; simp [zLw, List.set, nI_succ, e0, e1])
        · have e0 : mkd (s (6 + 6 * i + 3)) a = true := (zb_ne _).mp h9
          refine z_iinc d_Lir_together_92 1 (by decide) 95 rfl rfl (by decide) rfl ?_
          refine z_iload d_Lir_together_95 rfl 97 rfl ?_
          refine z_iload d_Lir_together_97 rfl 99 rfl ?_
          refine z_iadd d_Lir_together_99 100 rfl ?_
          refine z_istore d_Lir_together_100 102 rfl (by decide) rfl ?_
          refine z_goto d_Lir_together_102 115 (by decide) ?_
          refine z_iinc d_Lir_together_115 1 (by decide) 118 rfl rfl (by decide) rfl ?_
          refine z_goto d_Lir_together_118 48 (by decide) ?_
          exact z_Lg _ ih (by simp only [smm_lt hin]; simp [zLw, List.set, nI_succ, e0, e1])
    · refine z_aaload d_Lir_together_59 (i) 60 rfl wc_4 (Or.inr rfl) rfl (by omega) (by decide) (by rw [hTT.2 i hin (by omega)]) ?_
      refine z_astoreN d_Lir_together_60 62 rfl (by decide) rfl ?_
      refine z_aloadN d_Lir_together_62 rfl 64 rfl ?_
      refine z_ifnullN d_Lir_together_64 115 (by decide) ?_
      refine z_iinc d_Lir_together_115 1 (by decide) 118 rfl rfl (by decide) rfl ?_
      refine z_goto d_Lir_together_118 48 (by decide) ?_
      exact z_Lg _ ih (by simp only [smm_ge hin]; simp [zLw, List.set, nI_succ])
