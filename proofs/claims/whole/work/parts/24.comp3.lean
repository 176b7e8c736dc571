set_option maxHeartbeats 400000 in
theorem r_Roo_inRow_s {hp : List zC} (o N : Nat) (f : Nat → Option Nat) (ho : hp[o]? = some (.inr (.inl (1, N, f)))) (hN : N < 1000) (j P : Nat) (hj : j < N) (hv : f j = some P) : Ret 0 0 0 m_Roo_inRow [.ref o, .int (nI j)] (hp) (some (.ref P)) (hp) := by
  refine Ret.of (n := 0) (by decide) (trivial) rfl (fun X => ?_)
  refine z_iload_n d_Roo_inRow_0 rfl 1 rfl ?_
  refine z_if_lt d_Roo_inRow_1 16 4 (by decide) rfl (fun hzz => absurd hzz (nI_pos (by omega))) (fun h1 => ?_)
  refine z_iload_n d_Roo_inRow_4 rfl 5 rfl ?_
  refine z_aload_n d_Roo_inRow_5 rfl 6 rfl ?_
  refine z_alenR d_Roo_inRow_6 7 rfl ho (Or.inr rfl) (nI N) rfl ?_
  refine z_icmp_ge d_Roo_inRow_7 16 10 (by decide) rfl (fun hzz => absurd hzz (nI_ge hj (by omega))) (fun h2 => ?_)
  refine z_aload_n d_Roo_inRow_10 rfl 11 rfl ?_
  refine z_iload_n d_Roo_inRow_11 rfl 12 rfl ?_
  refine z_aaload d_Roo_inRow_12 (j) 13 rfl ho (Or.inr rfl) (rfl) (hj) (by omega) (by rw [hv]) ?_
  refine z_goto d_Roo_inRow_13 17 (by decide) ?_
  exact z_areturn d_Roo_inRow_17 (rfl) (rfl)
set_option maxHeartbeats 400000 in
theorem r_Roo_inRow_n {hp : List zC} (o N : Nat) (f : Nat → Option Nat) (ho : hp[o]? = some (.inr (.inl (1, N, f)))) (hN : N < 1000) (j : Nat) (hj : j < N) (hv : f j = none) : Ret 0 0 0 m_Roo_inRow [.ref o, .int (nI j)] (hp) (some .null) (hp) := by
  refine Ret.of (n := 0) (by decide) (trivial) rfl (fun X => ?_)
  refine z_iload_n d_Roo_inRow_0 rfl 1 rfl ?_
  refine z_if_lt d_Roo_inRow_1 16 4 (by decide) rfl (fun hzz => absurd hzz (nI_pos (by omega))) (fun h1 => ?_)
  refine z_iload_n d_Roo_inRow_4 rfl 5 rfl ?_
  refine z_aload_n d_Roo_inRow_5 rfl 6 rfl ?_
  refine z_alenR d_Roo_inRow_6 7 rfl ho (Or.inr rfl) (nI N) rfl ?_
  refine z_icmp_ge d_Roo_inRow_7 16 10 (by decide) rfl (fun hzz => absurd hzz (nI_ge hj (by omega))) (fun h2 => ?_)
  refine z_aload_n d_Roo_inRow_10 rfl 11 rfl ?_
  refine z_iload_n d_Roo_inRow_11 rfl 12 rfl ?_
  refine z_aaload d_Roo_inRow_12 (j) 13 rfl ho (Or.inr rfl) (rfl) (hj) (by omega) (by rw [hv]) ?_
  refine z_goto d_Roo_inRow_13 17 (by decide) ?_
  exact z_areturnN d_Roo_inRow_17 (rfl) (rfl)
set_option maxHeartbeats 400000 in
theorem r_Roo_inRow_o {hp : List zC} (o N : Nat) (f : Nat → Option Nat) (ho : hp[o]? = some (.inr (.inl (1, N, f)))) (hN : N < 1000) (t : Int32) (h : t < 0 ∨ nI N ≤ t) : Ret 0 0 0 m_Roo_inRow [.ref o, .int t] (hp) (some .null) (hp) := by
  refine Ret.of (n := 0) (by decide) (trivial) rfl (fun X => ?_)
  refine z_iload_n d_Roo_inRow_0 rfl 1 rfl ?_
  refine z_if_lt d_Roo_inRow_1 16 4 (by decide) rfl (fun h1 => ?_) (fun h1 => ?_)
  · refine z_aconst_null d_Roo_inRow_16 17 rfl ?_
    exact z_areturnN d_Roo_inRow_17 (rfl) (rfl)
  · refine z_iload_n d_Roo_inRow_4 rfl 5 rfl ?_
    refine z_aload_n d_Roo_inRow_5 rfl 6 rfl ?_
    refine z_alenR d_Roo_inRow_6 7 rfl ho (Or.inr rfl) (nI N) rfl ?_
    refine z_icmp_ge d_Roo_inRow_7 16 10 (by decide) rfl (fun h2 => ?_) (fun h2 => ?_)
    · refine z_aconst_null d_Roo_inRow_16 17 rfl ?_
      exact z_areturnN d_Roo_inRow_17 (rfl) (rfl)
    · exact absurd (h.resolve_left h1) h2
set_option maxHeartbeats 400000 in
theorem r_Roo_tellingAt_s {tk : Int32} {tp bt crf nt : Nat → Int32} {T PF PS : Nat → Option Nat} {C : Nat → Nat → Int32} {rc g pp bn sc : Nat → Int32} {b : zR} {u : zU} {tl : List zC} {n : Nat} (hn : sc 0 = nI n) (hn30 : n ≤ 30) (i P : Nat) (hi : i < n) (hT : T i = some P) : Ret 1 0 0 m_Roo_tellingAt [.ref 3, .int (nI i)] (wld (tk, tp, bt, (T, C, rc, PF, PS, g, pp, bn, sc), b, crf, nt) u tl) (some (.ref P)) (wld (tk, tp, bt, (T, C, rc, PF, PS, g, pp, bn, sc), b, crf, nt) u tl) := by
  refine Ret.of (n := 0) (by decide) (trivial) rfl (fun X => ?_)
  refine z_iload_n d_Roo_tellingAt_0 rfl 1 rfl ?_
  refine z_aload_n d_Roo_tellingAt_1 rfl 2 rfl ?_
  refine z_get d_Roo_tellingAt_2 5 rfl fl_Roo_77_6 wc_3 rfl ?_
  refine z_icmp_ge d_Roo_tellingAt_5 19 8 (by decide) rfl (fun hzz => absurd hzz (by rw [hn]; exact nI_ge hi (by omega))) (fun h1 => ?_)
  refine z_aload_n d_Roo_tellingAt_8 rfl 9 rfl ?_
  refine z_get d_Roo_tellingAt_9 12 rfl fl_Roo_11_6 wc_3 rfl ?_
  refine z_iload_n d_Roo_tellingAt_12 rfl 13 rfl ?_
  refine z_invs d_Roo_tellingAt_13 16 rfl hm_Roo_inRow lk_Roo_90 st_Roo_inRow (r_Roo_inRow_s 4 30 T wc_4 (by decide) i P (by omega) hT) rfl rfl (by decide) rfl rfl (Nat.le_of_ble_eq_true rfl) ?_
  refine z_goto d_Roo_tellingAt_16 20 (by decide) ?_
  exact z_areturn d_Roo_tellingAt_20 (rfl) (rfl)
set_option maxHeartbeats 400000 in
theorem r_Roo_tellingAt_m {tk : Int32} {tp bt crf nt : Nat → Int32} {T PF PS : Nat → Option Nat} {C : Nat → Nat → Int32} {rc g pp bn sc : Nat → Int32} {b : zR} {u : zU} {tl : List zC} (t : Int32) (h : t < 0) : Ret 1 0 0 m_Roo_tellingAt [.ref 3, .int t] (wld (tk, tp, bt, (T, C, rc, PF, PS, g, pp, bn, sc), b, crf, nt) u tl) (some .null) (wld (tk, tp, bt, (T, C, rc, PF, PS, g, pp, bn, sc), b, crf, nt) u tl) := by
  refine Ret.of (n := 0) (by decide) (trivial) rfl (fun X => ?_)
  refine z_iload_n d_Roo_tellingAt_0 rfl 1 rfl ?_
  refine z_aload_n d_Roo_tellingAt_1 rfl 2 rfl ?_
  refine z_get d_Roo_tellingAt_2 5 rfl fl_Roo_77_6 wc_3 rfl ?_
  refine z_icmp_ge d_Roo_tellingAt_5 19 8 (by decide) rfl (fun h1 => ?_) (fun h1 => ?_)
  · refine z_aconst_null d_Roo_tellingAt_19 20 rfl ?_
    exact z_areturnN d_Roo_tellingAt_20 (rfl) (rfl)
  · refine z_aload_n d_Roo_tellingAt_8 rfl 9 rfl ?_
    refine z_get d_Roo_tellingAt_9 12 rfl fl_Roo_11_6 wc_3 rfl ?_
    refine z_iload_n d_Roo_tellingAt_12 rfl 13 rfl ?_
    refine z_invs d_Roo_tellingAt_13 16 rfl hm_Roo_inRow lk_Roo_90 st_Roo_inRow (r_Roo_inRow_o 4 30 T wc_4 (by decide) t (Or.inl h)) rfl rfl (by decide) rfl rfl (Nat.le_of_ble_eq_true rfl) ?_
    refine z_goto d_Roo_tellingAt_16 20 (by decide) ?_
    exact z_areturnN d_Roo_tellingAt_20 (rfl) (rfl)
set_option maxHeartbeats 400000 in
theorem r_Roo_tellingAt_o {tk : Int32} {tp bt crf nt : Nat → Int32} {T PF PS : Nat → Option Nat} {C : Nat → Nat → Int32} {rc g pp bn sc : Nat → Int32} {b : zR} {u : zU} {tl : List zC} (t : Int32) (h : sc 0 ≤ t) : Ret 1 0 0 m_Roo_tellingAt [.ref 3, .int t] (wld (tk, tp, bt, (T, C, rc, PF, PS, g, pp, bn, sc), b, crf, nt) u tl) (some .null) (wld (tk, tp, bt, (T, C, rc, PF, PS, g, pp, bn, sc), b, crf, nt) u tl) := by
  refine Ret.of (n := 0) (by decide) (trivial) rfl (fun X => ?_)
  refine z_iload_n d_Roo_tellingAt_0 rfl 1 rfl ?_
  refine z_aload_n d_Roo_tellingAt_1 rfl 2 rfl ?_
  refine z_get d_Roo_tellingAt_2 5 rfl fl_Roo_77_6 wc_3 rfl ?_
  refine z_icmp_ge d_Roo_tellingAt_5 19 8 (by decide) rfl (fun h1 => ?_) (fun hzz => absurd h hzz)
  refine z_aconst_null d_Roo_tellingAt_19 20 rfl ?_
  exact z_areturnN d_Roo_tellingAt_20 (rfl) (rfl)
theorem inR_no {t a : Int32} (h : inR t a = false) : t < 0 ∨ a ≤ t := by
  have h := of_decide_eq_false h
  by_cases h0 : t < 0
  · exact Or.inl h0
  · refine Or.inr (Int32.not_lt.mp (fun q => h ⟨Int32.not_lt.mp h0, q⟩))
theorem inR_yes {t a : Int32} (h : inR t a = true) {n : Nat} (ha : a = nI n) (hn : n < 2 ^ 31) : ∃ i : Nat, i < n ∧ t = nI i := vld (by rw [h]; decide) ha hn
theorem r_Roo_tellingAt_n {tk : Int32} {tp bt crf nt : Nat → Int32} {T PF PS : Nat → Option Nat} {C : Nat → Nat → Int32} {rc g pp bn sc : Nat → Int32} {b : zR} {u : zU} {tl : List zC} (t : Int32) (h : inR t (sc 0) = false) : Ret 1 0 0 m_Roo_tellingAt [.ref 3, .int t] (wld (tk, tp, bt, (T, C, rc, PF, PS, g, pp, bn, sc), b, crf, nt) u tl) (some .null) (wld (tk, tp, bt, (T, C, rc, PF, PS, g, pp, bn, sc), b, crf, nt) u tl) := by
  rcases inR_no h with h | h
  · exact r_Roo_tellingAt_m t h
  · exact r_Roo_tellingAt_o t h
set_option maxHeartbeats 400000 in
theorem r_Roo_lawAt_s {tk : Int32} {tp bt crf nt : Nat → Int32} {T PF PS : Nat → Option Nat} {C : Nat → Nat → Int32} {rc g pp bn sc : Nat → Int32} {b : zR} {u : zU} {tl : List zC} (l : Nat) (hl : l < 6) : Ret 0 0 0 m_Roo_lawAt [.ref 3, .int (nI l)] (wld (tk, tp, bt, (T, C, rc, PF, PS, g, pp, bn, sc), b, crf, nt) u tl) (some (.ref (6 + 2 * l))) (wld (tk, tp, bt, (T, C, rc, PF, PS, g, pp, bn, sc), b, crf, nt) u tl) := by
  refine Ret.of (n := 0) (by decide) (trivial) rfl (fun X => ?_)
  refine z_iload_n d_Roo_lawAt_0 rfl 1 rfl ?_
  refine z_if_lt d_Roo_lawAt_1 22 4 (by decide) rfl (fun hzz => absurd hzz (nI_pos (by omega))) (fun h1 => ?_)
  refine z_iload_n d_Roo_lawAt_4 rfl 5 rfl ?_
  refine z_aload_n d_Roo_lawAt_5 rfl 6 rfl ?_
  refine z_get d_Roo_lawAt_6 9 rfl fl_Roo_19_6 wc_3 rfl ?_
  refine z_alenR d_Roo_lawAt_9 10 rfl wc_5 (Or.inl rfl) 6 (by decide) ?_
  refine z_icmp_ge d_Roo_lawAt_10 22 13 (by decide) rfl (fun hzz => absurd hzz (show ¬ nI 6 ≤ nI l from nI_ge hl (by decide))) (fun h2 => ?_)
  refine z_aload_n d_Roo_lawAt_13 rfl 14 rfl ?_
  refine z_get d_Roo_lawAt_14 17 rfl fl_Roo_19_6 wc_3 rfl ?_
  refine z_iload_n d_Roo_lawAt_17 rfl 18 rfl ?_
  refine z_aaload d_Roo_lawAt_18 (l) 19 rfl wc_5 (Or.inl rfl) (rfl) (by omega) (by decide) (by simp [lrow, hl]; rfl) ?_
  refine z_goto d_Roo_lawAt_19 23 (by decide) ?_
  exact z_areturn d_Roo_lawAt_23 (rfl) (rfl)
set_option maxHeartbeats 400000 in
theorem r_Roo_lawAt_n {tk : Int32} {tp bt crf nt : Nat → Int32} {T PF PS : Nat → Option Nat} {C : Nat → Nat → Int32} {rc g pp bn sc : Nat → Int32} {b : zR} {u : zU} {tl : List zC} (t : Int32) (h : inR t 6 = false) : Ret 0 0 0 m_Roo_lawAt [.ref 3, .int t] (wld (tk, tp, bt, (T, C, rc, PF, PS, g, pp, bn, sc), b, crf, nt) u tl) (some .null) (wld (tk, tp, bt, (T, C, rc, PF, PS, g, pp, bn, sc), b, crf, nt) u tl) := by
  refine Ret.of (n := 0) (by decide) (trivial) rfl (fun X => ?_)
  refine z_iload_n d_Roo_lawAt_0 rfl 1 rfl ?_
  refine z_if_lt d_Roo_lawAt_1 22 4 (by decide) rfl (fun h1 => ?_) (fun h1 => ?_)
  · refine z_aconst_null d_Roo_lawAt_22 23 rfl ?_
    exact z_areturnN d_Roo_lawAt_23 (rfl) (rfl)
  · refine z_iload_n d_Roo_lawAt_4 rfl 5 rfl ?_
    refine z_aload_n d_Roo_lawAt_5 rfl 6 rfl ?_
    refine z_get d_Roo_lawAt_6 9 rfl fl_Roo_19_6 wc_3 rfl ?_
    refine z_alenR d_Roo_lawAt_9 10 rfl wc_5 (Or.inl rfl) 6 (by decide) ?_
    refine z_icmp_ge d_Roo_lawAt_10 22 13 (by decide) rfl (fun h2 => ?_) (fun h2 => ?_)
    · refine z_aconst_null d_Roo_lawAt_22 23 rfl ?_
      exact z_areturnN d_Roo_lawAt_23 (rfl) (rfl)
    · exact absurd ((inR_no h).resolve_left h1) h2
set_option maxHeartbeats 400000 in
theorem r_Lir_refuse {tk : Int32} {tp bt crf nt : Nat → Int32} {T PF PS : Nat → Option Nat} {C : Nat → Nat → Int32} {rc g pp bn sc : Nat → Int32} {b : zR} {u : zU} {tl : List zC} (c : Int32) (j : Nat) (hj : -c = nI j) (hb : j < 7) : Ret 0 0 0 m_Lir_refuse [.ref 0, .int c] (wld (tk, tp, bt, (T, C, rc, PF, PS, g, pp, bn, sc), b, crf, nt) u tl) (some (.int c)) (wld (tk, tp, bt, (T, C, rc, PF, PS, g, pp, bn, sc), b, rfu crf j, nt) u tl) := by
  refine Ret.of (n := 1) (by decide) (rfl) rfl (fun X => ?_)
  refine z_iload_n d_Lir_refuse_0 rfl 1 rfl ?_
  refine z_ineg d_Lir_refuse_1 2 rfl ?_
  refine z_top (.int (nI j)) (by rw [hj]) ?_
  refine z_istore_n d_Lir_refuse_2 3 rfl (by decide) rfl ?_
  refine z_iload_n d_Lir_refuse_3 rfl 4 rfl ?_
  refine z_if_lt d_Lir_refuse_4 26 7 (by decide) rfl (fun hzz => absurd hzz (nI_pos (by omega))) (fun h1 => ?_)
  refine z_iload_n d_Lir_refuse_7 rfl 8 rfl ?_
  refine z_aload_n d_Lir_refuse_8 rfl 9 rfl ?_
  refine z_get d_Lir_refuse_9 12 rfl fl_Lir_26_10 wc_0 rfl ?_
  refine z_alenI d_Lir_refuse_12 13 rfl wc_43 7 (by decide) ?_
  refine z_icmp_ge d_Lir_refuse_13 26 16 (by decide) rfl (fun hzz => absurd hzz (show ¬ nI 7 ≤ nI j from nI_ge hb (by decide))) (fun h2 => ?_)
  refine z_aload_n d_Lir_refuse_16 rfl 17 rfl ?_
  refine z_get d_Lir_refuse_17 20 rfl fl_Lir_26_10 wc_0 rfl ?_
  refine z_iload_n d_Lir_refuse_20 rfl 21 rfl ?_
  refine z_dup2 d_Lir_refuse_21 rfl rfl 22 rfl ?_
  refine z_iaload d_Lir_refuse_22 (j) 23 rfl wc_43 (rfl) (by omega) (by decide) ?_
  refine z_iconst d_Lir_refuse_23 1 (by decide) 24 rfl ?_
  refine z_iadd d_Lir_refuse_24 25 rfl ?_
  refine z_iastore d_Lir_refuse_25 (j) 26 rfl wc_43 (rfl) (by omega) (by decide) ?_
  refine z_hp ws_43 ?_
  refine z_iload_n d_Lir_refuse_26 rfl 27 rfl ?_
  exact z_ireturn d_Lir_refuse_27 (rfl) (rfl)
set_option maxHeartbeats 400000 in
theorem r_Lir_refuseAsTold {tk : Int32} {tp bt crf nt : Nat → Int32} {T PF PS : Nat → Option Nat} {C : Nat → Nat → Int32} {rc g pp bn sc : Nat → Int32} {b : zR} {u : zU} {tl : List zC} (c : Int32) (j : Nat) (hj : -c = nI j) (hb : j < 7) : Ret 1 0 0 m_Lir_refuseAsTold [.ref 0, .int c] (wld (tk, tp, bt, (T, C, rc, PF, PS, g, pp, bn, sc), b, crf, nt) u tl) (some (.int (1000000000 - c))) (wld (tk, tp, bt, (T, C, rc, PF, PS, g, pp, bn, sc), b, rfu crf j, nt) u tl) := by
  refine Ret.of (n := 0) (by decide) (rfl) rfl (fun X => ?_)
  refine z_ldc_w d_Lir_refuseAsTold_0 kn_Lir_268 3 rfl ?_
  refine z_aload_n d_Lir_refuseAsTold_3 rfl 4 rfl ?_
  refine z_iload_n d_Lir_refuseAsTold_4 rfl 5 rfl ?_
  refine z_invv d_Lir_refuseAsTold_5 8 rfl hm_Lir_refuse lk_Lir_37 im_Lir_refuse sl_Lir_Lir_refuse rfl wc_0 (r_Lir_refuse c j hj hb) rfl rfl (by decide) rfl rfl (Nat.le_of_ble_eq_true rfl) ?_
  refine z_isub d_Lir_refuseAsTold_8 9 rfl ?_
  exact z_ireturn d_Lir_refuseAsTold_9 (rfl) (rfl)
