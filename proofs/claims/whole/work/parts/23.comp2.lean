theorem selT_has {ci : Nat} (h : ci ∈ zTel) : ∃ (C : String) (T : u_T) (N : Nat), zCl[ci]? = some (C, T, N) ∧ Cond.selects C m_Tel_has.1 m_Tel_has.1 ∈ zT := by
  simp only [zTel, List.mem_cons, List.not_mem_nil, or_false] at h
  rcases h with rfl | rfl | rfl | rfl | rfl | rfl
  · exact ⟨_, _, _, rfl, sl_Cal_Tel_has⟩
  · exact ⟨_, _, _, rfl, sl_Eye_Tel_has⟩
  · exact ⟨_, _, _, rfl, sl_Gro_Tel_has⟩
  · exact ⟨_, _, _, rfl, sl_Nea_Tel_has⟩
  · exact ⟨_, _, _, rfl, sl_Thr_Tel_has⟩
  · exact ⟨_, _, _, rfl, sl_Wit_Tel_has⟩
theorem selT_numberTold {ci : Nat} (h : ci ∈ zTel) : ∃ (C : String) (T : u_T) (N : Nat), zCl[ci]? = some (C, T, N) ∧ Cond.selects C m_Tel_numberTold.1 m_Tel_numberTold.1 ∈ zT := by
  simp only [zTel, List.mem_cons, List.not_mem_nil, or_false] at h
  rcases h with rfl | rfl | rfl | rfl | rfl | rfl
  · exact ⟨_, _, _, rfl, sl_Cal_Tel_numberTold⟩
  · exact ⟨_, _, _, rfl, sl_Eye_Tel_numberTold⟩
  · exact ⟨_, _, _, rfl, sl_Gro_Tel_numberTold⟩
  · exact ⟨_, _, _, rfl, sl_Nea_Tel_numberTold⟩
  · exact ⟨_, _, _, rfl, sl_Thr_Tel_numberTold⟩
  · exact ⟨_, _, _, rfl, sl_Wit_Tel_numberTold⟩
theorem selT_lacks {ci : Nat} (h : ci ∈ zTel) : ∃ (C : String) (T : u_T) (N : Nat), zCl[ci]? = some (C, T, N) ∧ Cond.selects C m_Tel_lacks.1 m_Tel_lacks.1 ∈ zT := by
  simp only [zTel, List.mem_cons, List.not_mem_nil, or_false] at h
  rcases h with rfl | rfl | rfl | rfl | rfl | rfl
  · exact ⟨_, _, _, rfl, sl_Cal_Tel_lacks⟩
  · exact ⟨_, _, _, rfl, sl_Eye_Tel_lacks⟩
  · exact ⟨_, _, _, rfl, sl_Gro_Tel_lacks⟩
  · exact ⟨_, _, _, rfl, sl_Nea_Tel_lacks⟩
  · exact ⟨_, _, _, rfl, sl_Thr_Tel_lacks⟩
  · exact ⟨_, _, _, rfl, sl_Wit_Tel_lacks⟩
theorem selT_gaps {ci : Nat} (h : ci ∈ zTel) : ∃ (C : String) (T : u_T) (N : Nat), zCl[ci]? = some (C, T, N) ∧ Cond.selects C m_Tel_gaps.1 m_Tel_gaps.1 ∈ zT := by
  simp only [zTel, List.mem_cons, List.not_mem_nil, or_false] at h
  rcases h with rfl | rfl | rfl | rfl | rfl | rfl
  · exact ⟨_, _, _, rfl, sl_Cal_Tel_gaps⟩
  · exact ⟨_, _, _, rfl, sl_Eye_Tel_gaps⟩
  · exact ⟨_, _, _, rfl, sl_Gro_Tel_gaps⟩
  · exact ⟨_, _, _, rfl, sl_Nea_Tel_gaps⟩
  · exact ⟨_, _, _, rfl, sl_Thr_Tel_gaps⟩
  · exact ⟨_, _, _, rfl, sl_Wit_Tel_gaps⟩
theorem z_invT {X : zS} {M : zM} {d kc ks : Nat} {r : Option Value} {hp' : List zC} {pc : Nat} {L : List (Option Value)} {st : List Value} {hp : List zC} {o : Nat} {as : List Value} {v : Value} {M' : zM} {ix nn d' mc ms kc1 ks1 : Nat} {hp1 : List zC} {st0 : List Value} {ci : Nat} {fs : List Value} (hdg : decode M.2.1 pc = .ok (.invokevirtual ix, 3)) (n : Nat) (en : pc + 3 = n) (hm : zcM M' nn) (hlk : Cond.methodLink M.1.cls ix M'.1 ∈ zT) (hsm : Cond.sameMethod M'.1.cls M'.1.cls M'.1.name M'.1.desc ∈ zT) (hi : Cond.instanceMethod M'.1 ∈ zT) (hs : ∃ (C : String) (T : u_T) (N : Nat), zCl[ci]? = some (C, T, N) ∧ Cond.selects C M'.1 M'.1 ∈ zT) (ho : hp[o]? = some (.inr (.inr (ci, fs)))) (hr : Ret d' mc ms M' (.ref o :: as) hp (some v) hp1) (hst : st0 = (as.reverse ++ .ref o :: st)) (hn : as.length = nn) (hd : d' + 1 ≤ d) (hkc : kc = kc1 + mc) (hks : ks = ks1 + ms) (hw : (st.map fun v => v.category).sum ≤ 8) (kk : Z X M d kc1 ks1 r hp' n L (v :: st) hp1) : Z X M d kc ks r hp' pc L st0 hp := by
  obtain ⟨C, T, N, hc, hsel⟩ := hs
  exact z_invU hdg n en hm hlk hsm hsel hi hm.2.2.1 (Or.inr rfl) hc ho hr hst hn hd hkc hks hw kk
set_option maxHeartbeats 400000 in
theorem r_Tel_has {hp : List zC} (v : Nat → Int32) (o : Nat) (ho : hp[o]? = some (tcell v)) (k : Int32) : Ret 1 0 0 m_Tel_has [.ref o, .int k] (hp) (some (.int (zb (mkd (v 3) k)))) (hp) := by
  refine Ret.of (n := 0) (by decide) (zb_nar _) rfl (fun X => ?_)
  refine z_aload_n d_Tel_has_0 rfl 1 rfl ?_
  refine z_get d_Tel_has_1 4 rfl (flT_Tel_29 (kci_mem _)) ho rfl ?_
  refine z_iload_n d_Tel_has_4 rfl 5 rfl ?_
  refine z_invSN d_Tel_has_5 8 rfl hm_Lir_hasBit (by decide) st_Lir_hasBit (r_Lir_hasBit _ _) rfl rfl (by decide) rfl rfl (Nat.le_of_ble_eq_true rfl) ?_
  exact z_ireturn d_Tel_has_8 (rfl) (rfl)
set_option maxHeartbeats 400000 in
theorem r_Tel_numberTold {hp : List zC} (v : Nat → Int32) (o : Nat) (ho : hp[o]? = some (tcell v)) (w : Int32) : Ret 0 0 0 m_Tel_numberTold [.ref o, .int w] (hp) (some (.int (if w = 0 then v 0 else v 1))) (hp) := by
  refine Ret.of (n := 0) (by decide) (rfl) rfl (fun X => ?_)
  refine z_iload_n d_Tel_numberTold_0 rfl 1 rfl ?_
  refine z_if_ne d_Tel_numberTold_1 11 4 (by decide) rfl (fun h1 => ?_) (fun h1 => ?_)
  · refine z_aload_n d_Tel_numberTold_11 rfl 12 rfl ?_
    refine z_get d_Tel_numberTold_12 15 rfl (flT_Tel_21 (kci_mem _)) ho rfl ?_
    exact z_ireturn d_Tel_numberTold_15 (by simp [*]) (rfl)
  · refine z_aload_n d_Tel_numberTold_4 rfl 5 rfl ?_
    refine z_get d_Tel_numberTold_5 8 rfl (flT_Tel_15 (kci_mem _)) ho rfl ?_
    refine z_goto d_Tel_numberTold_8 15 (by decide) ?_
    exact z_ireturn d_Tel_numberTold_15 (by simp [*]) (rfl)
set_option maxHeartbeats 400000 in
theorem r_Tel_lacks {hp : List zC} (v : Nat → Int32) (o : Nat) (ho : hp[o]? = some (tcell v)) (w : Int32) : Ret 1 0 0 m_Tel_lacks [.ref o, .int w] (hp) (some (.int (zb (decide ((if w = 0 then v 0 else v 1) = -9))))) (hp) := by
  refine Ret.of (n := 0) (by decide) (zb_nar _) rfl (fun X => ?_)
  refine z_aload_n d_Tel_lacks_0 rfl 1 rfl ?_
  refine z_iload_n d_Tel_lacks_1 rfl 2 rfl ?_
  refine z_invT d_Tel_lacks_2 5 rfl hm_Tel_numberTold lk_Tel_43 sm_Tel_numberTold im_Tel_numberTold (selT_numberTold (kci_mem _)) ho (r_Tel_numberTold _ _ ho _) rfl rfl (by decide) rfl rfl (Nat.le_of_ble_eq_true rfl) ?_
  refine z_bipush d_Tel_lacks_5 (-9) (by decide) 7 rfl ?_
  refine z_icmp_ne d_Tel_lacks_7 14 10 (by decide) rfl (fun h1 => ?_) (fun h1 => ?_)
  · refine z_iconst d_Tel_lacks_14 0 (by decide) 15 rfl ?_
    exact z_ireturn d_Tel_lacks_15 (by first | rw [zb_of (by assumption)] | rw [zb_no (by assumption)]) (rfl)
  · refine z_iconst d_Tel_lacks_10 1 (by decide) 11 rfl ?_
    refine z_goto d_Tel_lacks_11 15 (by decide) ?_
    exact z_ireturn d_Tel_lacks_15 (by first | rw [zb_of (by assumption)] | rw [zb_no (by assumption)]) (rfl)
set_option maxHeartbeats 400000 in
theorem r_Tel_gaps {hp : List zC} (v : Nat → Int32) (o : Nat) (ho : hp[o]? = some (tcell v)) : Ret 0 0 0 m_Tel_gaps [.ref o] (hp) (some (.int ((if v 0 = -9 then 1 else 0) + (if v 1 = -9 then 1 else 0) + (if v 2 = -9 then 1 else 0)))) (hp) := by
  refine Ret.of (n := 0) (by decide) (rfl) rfl (fun X => ?_)
  refine z_aload_n d_Tel_gaps_0 rfl 1 rfl ?_
  refine z_get d_Tel_gaps_1 4 rfl (flT_Tel_15 (kci_mem _)) ho rfl ?_
  refine z_bipush d_Tel_gaps_4 (-9) (by decide) 6 rfl ?_
  refine z_icmp_ne d_Tel_gaps_6 13 9 (by decide) rfl (fun h1 => ?_) (fun h1 => ?_)
  · refine z_iconst d_Tel_gaps_13 0 (by decide) 14 rfl ?_
    refine z_aload_n d_Tel_gaps_14 rfl 15 rfl ?_
    refine z_get d_Tel_gaps_15 18 rfl (flT_Tel_21 (kci_mem _)) ho rfl ?_
    refine z_bipush d_Tel_gaps_18 (-9) (by decide) 20 rfl ?_
    refine z_icmp_ne d_Tel_gaps_20 27 23 (by decide) rfl (fun h2 => ?_) (fun h2 => ?_)
    · refine z_iconst d_Tel_gaps_27 0 (by decide) 28 rfl ?_
      refine z_iadd d_Tel_gaps_28 29 rfl ?_
      refine z_aload_n d_Tel_gaps_29 rfl 30 rfl ?_
      refine z_get d_Tel_gaps_30 33 rfl (flT_Tel_25 (kci_mem _)) ho rfl ?_
      refine z_bipush d_Tel_gaps_33 (-9) (by decide) 35 rfl ?_
      refine z_icmp_ne d_Tel_gaps_35 42 38 (by decide) rfl (fun h3 => ?_) (fun h3 => ?_)
      · refine z_iconst d_Tel_gaps_42 0 (by decide) 43 rfl ?_
        refine z_iadd d_Tel_gaps_43 44 rfl ?_
        exact z_ireturn d_Tel_gaps_44 (by simp [*]) (rfl)
      · refine z_iconst d_Tel_gaps_38 1 (by decide) 39 rfl ?_
        refine z_goto d_Tel_gaps_39 43 (by decide) ?_
        refine z_iadd d_Tel_gaps_43 44 rfl ?_
        exact z_ireturn d_Tel_gaps_44 (by simp [*]) (rfl)
    · refine z_iconst d_Tel_gaps_23 1 (by decide) 24 rfl ?_
      refine z_goto d_Tel_gaps_24 28 (by decide) ?_
      refine z_iadd d_Tel_gaps_28 29 rfl ?_
      refine z_aload_n d_Tel_gaps_29 rfl 30 rfl ?_
      refine z_get d_Tel_gaps_30 33 rfl (flT_Tel_25 (kci_mem _)) ho rfl ?_
      refine z_bipush d_Tel_gaps_33 (-9) (by decide) 35 rfl ?_
      refine z_icmp_ne d_Tel_gaps_35 42 38 (by decide) rfl (fun h4 => ?_) (fun h4 => ?_)
      · refine z_iconst d_Tel_gaps_42 0 (by decide) 43 rfl ?_
        refine z_iadd d_Tel_gaps_43 44 rfl ?_
        exact z_ireturn d_Tel_gaps_44 (by simp [*]) (rfl)
      · refine z_iconst d_Tel_gaps_38 1 (by decide) 39 rfl ?_
        refine z_goto d_Tel_gaps_39 43 (by decide) ?_
        refine z_iadd d_Tel_gaps_43 44 rfl ?_
        exact z_ireturn d_Tel_gaps_44 (by simp [*]) (rfl)
  · refine z_iconst d_Tel_gaps_9 1 (by decide) 10 rfl ?_
    refine z_goto d_Tel_gaps_10 14 (by decide) ?_
    refine z_aload_n d_Tel_gaps_14 rfl 15 rfl ?_
    refine z_get d_Tel_gaps_15 18 rfl (flT_Tel_21 (kci_mem _)) ho rfl ?_
    refine z_bipush d_Tel_gaps_18 (-9) (by decide) 20 rfl ?_
    refine z_icmp_ne d_Tel_gaps_20 27 23 (by decide) rfl (fun h5 => ?_) (fun h5 => ?_)
    · refine z_iconst d_Tel_gaps_27 0 (by decide) 28 rfl ?_
      refine z_iadd d_Tel_gaps_28 29 rfl ?_
      refine z_aload_n d_Tel_gaps_29 rfl 30 rfl ?_
      refine z_get d_Tel_gaps_30 33 rfl (flT_Tel_25 (kci_mem _)) ho rfl ?_
      refine z_bipush d_Tel_gaps_33 (-9) (by decide) 35 rfl ?_
      refine z_icmp_ne d_Tel_gaps_35 42 38 (by decide) rfl (fun h6 => ?_) (fun h6 => ?_)
      · refine z_iconst d_Tel_gaps_42 0 (by decide) 43 rfl ?_
        refine z_iadd d_Tel_gaps_43 44 rfl ?_
        exact z_ireturn d_Tel_gaps_44 (by simp [*]) (rfl)
      · refine z_iconst d_Tel_gaps_38 1 (by decide) 39 rfl ?_
        refine z_goto d_Tel_gaps_39 43 (by decide) ?_
        refine z_iadd d_Tel_gaps_43 44 rfl ?_
        exact z_ireturn d_Tel_gaps_44 (by simp [*]) (rfl)
    · refine z_iconst d_Tel_gaps_23 1 (by decide) 24 rfl ?_
      refine z_goto d_Tel_gaps_24 28 (by decide) ?_
      refine z_iadd d_Tel_gaps_28 29 rfl ?_
      refine z_aload_n d_Tel_gaps_29 rfl 30 rfl ?_
      refine z_get d_Tel_gaps_30 33 rfl (flT_Tel_25 (kci_mem _)) ho rfl ?_
      refine z_bipush d_Tel_gaps_33 (-9) (by decide) 35 rfl ?_
      refine z_icmp_ne d_Tel_gaps_35 42 38 (by decide) rfl (fun h7 => ?_) (fun h7 => ?_)
      · refine z_iconst d_Tel_gaps_42 0 (by decide) 43 rfl ?_
        refine z_iadd d_Tel_gaps_43 44 rfl ?_
        exact z_ireturn d_Tel_gaps_44 (by simp [*]) (rfl)
      · refine z_iconst d_Tel_gaps_38 1 (by decide) 39 rfl ?_
        refine z_goto d_Tel_gaps_39 43 (by decide) ?_
        refine z_iadd d_Tel_gaps_43 44 rfl ?_
        exact z_ireturn d_Tel_gaps_44 (by simp [*]) (rfl)
set_option maxHeartbeats 400000 in
theorem r_Cal_kindNumber {hp : List zC} (o : Nat) : Ret 0 0 0 m_Cal_kindNumber [.ref o] (hp) (some (.int 5)) (hp) := by
  refine Ret.of (n := 0) (by decide) (rfl) rfl (fun X => ?_)
  refine z_iconst d_Cal_kindNumber_0 5 (by decide) 1 rfl ?_
  exact z_ireturn d_Cal_kindNumber_1 (rfl) (rfl)
set_option maxHeartbeats 400000 in
theorem r_Eye_kindNumber {hp : List zC} (o : Nat) : Ret 0 0 0 m_Eye_kindNumber [.ref o] (hp) (some (.int 3)) (hp) := by
  refine Ret.of (n := 0) (by decide) (rfl) rfl (fun X => ?_)
  refine z_iconst d_Eye_kindNumber_0 3 (by decide) 1 rfl ?_
  exact z_ireturn d_Eye_kindNumber_1 (rfl) (rfl)
set_option maxHeartbeats 400000 in
theorem r_Gro_kindNumber {hp : List zC} (o : Nat) : Ret 0 0 0 m_Gro_kindNumber [.ref o] (hp) (some (.int 4)) (hp) := by
  refine Ret.of (n := 0) (by decide) (rfl) rfl (fun X => ?_)
  refine z_iconst d_Gro_kindNumber_0 4 (by decide) 1 rfl ?_
  exact z_ireturn d_Gro_kindNumber_1 (rfl) (rfl)
set_option maxHeartbeats 400000 in
theorem r_Nea_kindNumber {hp : List zC} (o : Nat) : Ret 0 0 0 m_Nea_kindNumber [.ref o] (hp) (some (.int 1)) (hp) := by
  refine Ret.of (n := 0) (by decide) (rfl) rfl (fun X => ?_)
  refine z_iconst d_Nea_kindNumber_0 1 (by decide) 1 rfl ?_
  exact z_ireturn d_Nea_kindNumber_1 (rfl) (rfl)
set_option maxHeartbeats 400000 in
theorem r_Thr_kindNumber {hp : List zC} (o : Nat) : Ret 0 0 0 m_Thr_kindNumber [.ref o] (hp) (some (.int 2)) (hp) := by
  refine Ret.of (n := 0) (by decide) (rfl) rfl (fun X => ?_)
  refine z_iconst d_Thr_kindNumber_0 2 (by decide) 1 rfl ?_
  exact z_ireturn d_Thr_kindNumber_1 (rfl) (rfl)
set_option maxHeartbeats 400000 in
theorem r_Wit_kindNumber {hp : List zC} (o : Nat) : Ret 0 0 0 m_Wit_kindNumber [.ref o] (hp) (some (.int 0)) (hp) := by
  refine Ret.of (n := 0) (by decide) (rfl) rfl (fun X => ?_)
  refine z_iconst d_Wit_kindNumber_0 0 (by decide) 1 rfl ?_
  exact z_ireturn d_Wit_kindNumber_1 (rfl) (rfl)
set_option maxHeartbeats 400000 in
theorem r_Cal_ownWeight {hp : List zC} (o : Nat) : Ret 0 0 0 m_Cal_ownWeight [.ref o] (hp) (some (.int 1)) (hp) := by
  refine Ret.of (n := 0) (by decide) (rfl) rfl (fun X => ?_)
  refine z_iconst d_Cal_ownWeight_0 1 (by decide) 1 rfl ?_
  exact z_ireturn d_Cal_ownWeight_1 (rfl) (rfl)
set_option maxHeartbeats 400000 in
theorem r_Eye_ownWeight {hp : List zC} (o : Nat) : Ret 0 0 0 m_Eye_ownWeight [.ref o] (hp) (some (.int 5)) (hp) := by
  refine Ret.of (n := 0) (by decide) (rfl) rfl (fun X => ?_)
  refine z_iconst d_Eye_ownWeight_0 5 (by decide) 1 rfl ?_
  exact z_ireturn d_Eye_ownWeight_1 (rfl) (rfl)
set_option maxHeartbeats 400000 in
theorem r_Nea_ownWeight {hp : List zC} (o : Nat) : Ret 0 0 0 m_Nea_ownWeight [.ref o] (hp) (some (.int 15)) (hp) := by
  refine Ret.of (n := 0) (by decide) (rfl) rfl (fun X => ?_)
  refine z_bipush d_Nea_ownWeight_0 15 (by decide) 2 rfl ?_
  exact z_ireturn d_Nea_ownWeight_2 (rfl) (rfl)
set_option maxHeartbeats 400000 in
theorem r_Wit_ownWeight {hp : List zC} (o : Nat) : Ret 0 0 0 m_Wit_ownWeight [.ref o] (hp) (some (.int 8)) (hp) := by
  refine Ret.of (n := 0) (by decide) (rfl) rfl (fun X => ?_)
  refine z_bipush d_Wit_ownWeight_0 8 (by decide) 2 rfl ?_
  exact z_ireturn d_Wit_ownWeight_2 (rfl) (rfl)
set_option maxHeartbeats 400000 in
theorem r_Thr_ownWeight {hp : List zC} (v : Nat → Int32) (o : Nat) (ho : hp[o]? = some (.inr (.inr (8, [.int (v 0), .int (v 1), .int (v 2), .int (v 3), .int (v 4), .int (v 5)])))) : Ret 1 0 0 m_Thr_ownWeight [.ref o] (hp) (some (.int (15 + (if v 1 = -9 then 0 else v 1)))) (hp) := by
  refine Ret.of (n := 0) (by decide) (rfl) rfl (fun X => ?_)
  refine z_aload_n d_Thr_ownWeight_0 rfl 1 rfl ?_
  refine z_invSU d_Thr_ownWeight_1 4 rfl hm_Nea_ownWeight lk_Thr_9 sm_Nea_ownWeight su_Thr im_Nea_ownWeight (by decide) rfl ho (r_Nea_ownWeight o) rfl rfl (by decide) rfl rfl (Nat.le_of_ble_eq_true rfl) ?_
  refine z_aload_n d_Thr_ownWeight_4 rfl 5 rfl ?_
  refine z_get d_Thr_ownWeight_5 8 rfl fl_Thr_13_8 ho rfl ?_
  refine z_bipush d_Thr_ownWeight_8 (-9) (by decide) 10 rfl ?_
  refine z_icmp_ne d_Thr_ownWeight_10 17 13 (by decide) rfl (fun h1 => ?_) (fun h1 => ?_)
  · refine z_aload_n d_Thr_ownWeight_17 rfl 18 rfl ?_
    refine z_get d_Thr_ownWeight_18 21 rfl fl_Thr_13_8 ho rfl ?_
    refine z_iadd d_Thr_ownWeight_21 22 rfl ?_
    exact z_ireturn d_Thr_ownWeight_22 (by simp [*]) (rfl)
  · refine z_iconst d_Thr_ownWeight_13 0 (by decide) 14 rfl ?_
    refine z_goto d_Thr_ownWeight_14 21 (by decide) ?_
    refine z_iadd d_Thr_ownWeight_21 22 rfl ?_
    exact z_ireturn d_Thr_ownWeight_22 (by simp [*]) (rfl)
set_option maxHeartbeats 400000 in
theorem r_Gro_ownWeight {hp : List zC} (v : Nat → Int32) (o : Nat) (ho : hp[o]? = some (.inr (.inr (3, [.int (v 0), .int (v 1), .int (v 2), .int (v 3), .int (v 4), .int (v 5)])))) : Ret 1 0 0 m_Gro_ownWeight [.ref o] (hp) (some (.int (8 - v 4 / 20))) (hp) := by
  refine Ret.of (n := 0) (by decide) (rfl) rfl (fun X => ?_)
  refine z_aload_n d_Gro_ownWeight_0 rfl 1 rfl ?_
  refine z_invSU d_Gro_ownWeight_1 4 rfl hm_Wit_ownWeight lk_Gro_9 sm_Wit_ownWeight su_Gro im_Wit_ownWeight (by decide) rfl ho (r_Wit_ownWeight o) rfl rfl (by decide) rfl rfl (Nat.le_of_ble_eq_true rfl) ?_
  refine z_aload_n d_Gro_ownWeight_4 rfl 5 rfl ?_
  refine z_get d_Gro_ownWeight_5 8 rfl fl_Gro_13_3 ho rfl ?_
  refine z_bipush d_Gro_ownWeight_8 20 (by decide) 10 rfl ?_
  refine z_idiv d_Gro_ownWeight_10 (by decide) 11 rfl ?_
  refine z_isub d_Gro_ownWeight_11 12 rfl ?_
  exact z_ireturn d_Gro_ownWeight_12 (rfl) (rfl)
def wtC (sc mk yr ak : Int32) : Int32 := if ak = 1 then 1 else if (mkd mk 5 && !mkd mk 6) = true then 5 else if mkd mk 4 = true then (if mkd mk 3 = true then 15 + (if sc = -9 then 0 else sc) else 15) else if 20 ≤ yr then 8 - yr / 20 else 8
theorem kc_cases (mk yr ak : Int32) : (kdV mk yr ak = 5 ∧ ∀ sc, wtC sc mk yr ak = 1) ∨ (kdV mk yr ak = 3 ∧ ∀ sc, wtC sc mk yr ak = 5) ∨ (kdV mk yr ak = 2 ∧ ∀ sc, wtC sc mk yr ak = 15 + (if sc = -9 then 0 else sc)) ∨ (kdV mk yr ak = 1 ∧ ∀ sc, wtC sc mk yr ak = 15) ∨ (kdV mk yr ak = 4 ∧ ∀ sc, wtC sc mk yr ak = 8 - yr / 20) ∨ (kdV mk yr ak = 0 ∧ ∀ sc, wtC sc mk yr ak = 8) := by
  unfold kdV wtC
  by_cases h1 : ak = 1
  · simp [h1]
  · by_cases h2 : (mkd mk 5 && !mkd mk 6) = true
    · simp only [h1, h2, if_true, if_false]; simp
    · by_cases h3 : mkd mk 4 = true
      · by_cases h4 : mkd mk 3 = true
        · simp only [h1, h2, h3, h4, if_true, if_false]; simp
        · simp only [h1, h2, h3, h4, if_true, if_false]; simp
      · by_cases h5 : 20 ≤ yr
        · simp only [h1, h2, h3, h5, if_true, if_false]; simp
        · simp only [h1, h2, h3, h5, if_true, if_false]; simp
theorem z_kindN {X : zS} {M : zM} {d kc ks : Nat} {r : Option Value} {hp' : List zC} {pc : Nat} {L : List (Option Value)} {st : List Value} {hp : List zC} {ix o : Nat} {v : Nat → Int32} (hdg : decode M.2.1 pc = .ok (.invokevirtual ix, 3)) (n : Nat) (en : pc + 3 = n) (hlk : Cond.methodLink M.1.cls ix (⟨"LightInRoom$Telling", "kindNumber", "()I"⟩ : MethodName) ∈ zT) (ho : hp[o]? = some (tcell v)) (hd : 1 ≤ d) (hw : (st.map fun v => v.category).sum ≤ 8) (kk : Z X M d kc ks r hp' n L (.int (kdV (v 3) (v 4) (v 5)) :: st) hp) : Z X M d kc ks r hp' pc L (.ref o :: st) hp := by
  rcases kc_cases (v 3) (v 4) (v 5) with ⟨h, e⟩ | ⟨h, e⟩ | ⟨h, e⟩ | ⟨h, e⟩ | ⟨h, e⟩ | ⟨h, e⟩
  · have ho2 : hp[o]? = some (.inr (.inr (1, [.int (v 0), .int (v 1), .int (v 2), .int (v 3), .int (v 4), .int (v 5)]))) := by rw [ho]; show some (Sum.inr (Sum.inr (kci (kdV (v 3) (v 4) (v 5)), _))) = _; rw [h]; rfl
    rw [h] at kk
    exact z_invU (as := []) hdg n en hm_Cal_kindNumber hlk sm_Tel_kindNumber sl_Cal_Cal_kindNumber im_Cal_kindNumber (by decide +kernel) (Or.inl (by decide)) rfl ho2 (r_Cal_kindNumber o) rfl rfl (by omega) rfl rfl hw kk
  · have ho2 : hp[o]? = some (.inr (.inr (2, [.int (v 0), .int (v 1), .int (v 2), .int (v 3), .int (v 4), .int (v 5)]))) := by rw [ho]; show some (Sum.inr (Sum.inr (kci (kdV (v 3) (v 4) (v 5)), _))) = _; rw [h]; rfl
    rw [h] at kk
    exact z_invU (as := []) hdg n en hm_Eye_kindNumber hlk sm_Tel_kindNumber sl_Eye_Eye_kindNumber im_Eye_kindNumber (by decide +kernel) (Or.inl (by decide)) rfl ho2 (r_Eye_kindNumber o) rfl rfl (by omega) rfl rfl hw kk
  · have ho2 : hp[o]? = some (.inr (.inr (8, [.int (v 0), .int (v 1), .int (v 2), .int (v 3), .int (v 4), .int (v 5)]))) := by rw [ho]; show some (Sum.inr (Sum.inr (kci (kdV (v 3) (v 4) (v 5)), _))) = _; rw [h]; rfl
    rw [h] at kk
    exact z_invU (as := []) hdg n en hm_Thr_kindNumber hlk sm_Tel_kindNumber sl_Thr_Thr_kindNumber im_Thr_kindNumber (by decide +kernel) (Or.inl (by decide)) rfl ho2 (r_Thr_kindNumber o) rfl rfl (by omega) rfl rfl hw kk
  · have ho2 : hp[o]? = some (.inr (.inr (5, [.int (v 0), .int (v 1), .int (v 2), .int (v 3), .int (v 4), .int (v 5)]))) := by rw [ho]; show some (Sum.inr (Sum.inr (kci (kdV (v 3) (v 4) (v 5)), _))) = _; rw [h]; rfl
    rw [h] at kk
    exact z_invU (as := []) hdg n en hm_Nea_kindNumber hlk sm_Tel_kindNumber sl_Nea_Nea_kindNumber im_Nea_kindNumber (by decide +kernel) (Or.inl (by decide)) rfl ho2 (r_Nea_kindNumber o) rfl rfl (by omega) rfl rfl hw kk
  · have ho2 : hp[o]? = some (.inr (.inr (3, [.int (v 0), .int (v 1), .int (v 2), .int (v 3), .int (v 4), .int (v 5)]))) := by rw [ho]; show some (Sum.inr (Sum.inr (kci (kdV (v 3) (v 4) (v 5)), _))) = _; rw [h]; rfl
    rw [h] at kk
    exact z_invU (as := []) hdg n en hm_Gro_kindNumber hlk sm_Tel_kindNumber sl_Gro_Gro_kindNumber im_Gro_kindNumber (by decide +kernel) (Or.inl (by decide)) rfl ho2 (r_Gro_kindNumber o) rfl rfl (by omega) rfl rfl hw kk
  · have ho2 : hp[o]? = some (.inr (.inr (9, [.int (v 0), .int (v 1), .int (v 2), .int (v 3), .int (v 4), .int (v 5)]))) := by rw [ho]; show some (Sum.inr (Sum.inr (kci (kdV (v 3) (v 4) (v 5)), _))) = _; rw [h]; rfl
    rw [h] at kk
    exact z_invU (as := []) hdg n en hm_Wit_kindNumber hlk sm_Tel_kindNumber sl_Wit_Wit_kindNumber im_Wit_kindNumber (by decide +kernel) (Or.inl (by decide)) rfl ho2 (r_Wit_kindNumber o) rfl rfl (by omega) rfl rfl hw kk
theorem z_ownW {X : zS} {M : zM} {d kc ks : Nat} {r : Option Value} {hp' : List zC} {pc : Nat} {L : List (Option Value)} {st : List Value} {hp : List zC} {ix o : Nat} {v : Nat → Int32} (hdg : decode M.2.1 pc = .ok (.invokevirtual ix, 3)) (n : Nat) (en : pc + 3 = n) (hlk : Cond.methodLink M.1.cls ix (⟨"LightInRoom$Telling", "ownWeight", "()I"⟩ : MethodName) ∈ zT) (ho : hp[o]? = some (tcell v)) (hd : 2 ≤ d) (hw : (st.map fun v => v.category).sum ≤ 8) (kk : Z X M d kc ks r hp' n L (.int (wtC (v 1) (v 3) (v 4) (v 5)) :: st) hp) : Z X M d kc ks r hp' pc L (.ref o :: st) hp := by
  rcases kc_cases (v 3) (v 4) (v 5) with ⟨h, e⟩ | ⟨h, e⟩ | ⟨h, e⟩ | ⟨h, e⟩ | ⟨h, e⟩ | ⟨h, e⟩
  · have ho2 : hp[o]? = some (.inr (.inr (1, [.int (v 0), .int (v 1), .int (v 2), .int (v 3), .int (v 4), .int (v 5)]))) := by rw [ho]; show some (Sum.inr (Sum.inr (kci (kdV (v 3) (v 4) (v 5)), _))) = _; rw [h]; rfl
    rw [e] at kk
    exact z_invU (as := []) hdg n en hm_Cal_ownWeight hlk sm_Tel_ownWeight sl_Cal_Cal_ownWeight im_Cal_ownWeight (by decide +kernel) (Or.inl (by decide)) rfl ho2 (r_Cal_ownWeight o) rfl rfl (by omega) rfl rfl hw kk
  · have ho2 : hp[o]? = some (.inr (.inr (2, [.int (v 0), .int (v 1), .int (v 2), .int (v 3), .int (v 4), .int (v 5)]))) := by rw [ho]; show some (Sum.inr (Sum.inr (kci (kdV (v 3) (v 4) (v 5)), _))) = _; rw [h]; rfl
    rw [e] at kk
    exact z_invU (as := []) hdg n en hm_Eye_ownWeight hlk sm_Tel_ownWeight sl_Eye_Eye_ownWeight im_Eye_ownWeight (by decide +kernel) (Or.inl (by decide)) rfl ho2 (r_Eye_ownWeight o) rfl rfl (by omega) rfl rfl hw kk
  · have ho2 : hp[o]? = some (.inr (.inr (8, [.int (v 0), .int (v 1), .int (v 2), .int (v 3), .int (v 4), .int (v 5)]))) := by rw [ho]; show some (Sum.inr (Sum.inr (kci (kdV (v 3) (v 4) (v 5)), _))) = _; rw [h]; rfl
    rw [e] at kk
    exact z_invU (as := []) hdg n en hm_Thr_ownWeight hlk sm_Tel_ownWeight sl_Thr_Thr_ownWeight im_Thr_ownWeight (by decide +kernel) (Or.inl (by decide)) rfl ho2 (r_Thr_ownWeight v o ho2) rfl rfl (by omega) rfl rfl hw kk
  · have ho2 : hp[o]? = some (.inr (.inr (5, [.int (v 0), .int (v 1), .int (v 2), .int (v 3), .int (v 4), .int (v 5)]))) := by rw [ho]; show some (Sum.inr (Sum.inr (kci (kdV (v 3) (v 4) (v 5)), _))) = _; rw [h]; rfl
    rw [e] at kk
    exact z_invU (as := []) hdg n en hm_Nea_ownWeight hlk sm_Tel_ownWeight sl_Nea_Nea_ownWeight im_Nea_ownWeight (by decide +kernel) (Or.inl (by decide)) rfl ho2 (r_Nea_ownWeight o) rfl rfl (by omega) rfl rfl hw kk
  · have ho2 : hp[o]? = some (.inr (.inr (3, [.int (v 0), .int (v 1), .int (v 2), .int (v 3), .int (v 4), .int (v 5)]))) := by rw [ho]; show some (Sum.inr (Sum.inr (kci (kdV (v 3) (v 4) (v 5)), _))) = _; rw [h]; rfl
    rw [e] at kk
    exact z_invU (as := []) hdg n en hm_Gro_ownWeight hlk sm_Tel_ownWeight sl_Gro_Gro_ownWeight im_Gro_ownWeight (by decide +kernel) (Or.inl (by decide)) rfl ho2 (r_Gro_ownWeight v o ho2) rfl rfl (by omega) rfl rfl hw kk
  · have ho2 : hp[o]? = some (.inr (.inr (9, [.int (v 0), .int (v 1), .int (v 2), .int (v 3), .int (v 4), .int (v 5)]))) := by rw [ho]; show some (Sum.inr (Sum.inr (kci (kdV (v 3) (v 4) (v 5)), _))) = _; rw [h]; rfl
    rw [e] at kk
    exact z_invU (as := []) hdg n en hm_Wit_ownWeight hlk sm_Tel_ownWeight sl_Wit_Wit_ownWeight im_Wit_ownWeight (by decide +kernel) (Or.inl (by decide)) rfl ho2 (r_Wit_ownWeight o) rfl rfl (by omega) rfl rfl hw kk
