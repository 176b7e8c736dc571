theorem zx_1 : Cond.fieldLink "java/lang/String" 9 "java/lang/String" "value" "[B" ∈ zT := zT_in 1145 (by decide +kernel) (by decide +kernel)
theorem zx_2 : Cond.fieldLink "java/lang/String" 15 "java/lang/String" "coder" "B" ∈ zT := zT_in 1146 (by decide +kernel) (by decide +kernel)
theorem zx_3 : Cond.fieldLink "java/lang/String" 38 "java/lang/String" "COMPACT_STRINGS" "Z" ∈ zT := zT_in 288 (by decide +kernel) (by decide +kernel)
theorem zx_4 : Cond.fieldLink "java/lang/String" 1053 "jdk/internal/util/Preconditions" "SIOOBE_FORMATTER" "Ljava/util/function/BiFunction;" ∈ zT := zT_in 304 (by decide +kernel) (by decide +kernel)
theorem z_ldcS {X : zS} {M : zM} {d kc ks : Nat} {r : Option Value} {hp' : List zC} {pc : Nat} {L : List (Option Value)} {st : List Value} {hp : List zC} (hM : M.1.cls = "LightInRoom$Tape") (hdg : decode M.2.1 pc = .ok (.ldc 101, 2)) (n : Nat) (en : pc + 2 = n) (kk : Z X M d kc ks r hp' n L (.retAddr 1 :: st) hp) : Z X M d kc ks r hp' pc L st hp := by
  subst en
  intro G B p l e R s m args below meth c Q H locs cells slots ls A F h hS h1 h2 h3 h4 hl
  exact va_ldcS (own := "LightInRoom$Tape") A.1 A.2.1 (by rw [← hM]; exact A.2.2.2.1) A.2.2.2.2.2.2.1.2.2.2.2.2.1 hdg (kk G B p l e R s m args below meth c Q H locs cells slots ls A F h hS h1 h2 h3 h4 hl)
theorem z_getSv {X : zS} {M : zM} {d kc ks : Nat} {r : Option Value} {hp' : List zC} {pc : Nat} {L : List (Option Value)} {st : List Value} {hp : List zC} (hM : M.1.cls = "java/lang/String") (hdg : decode M.2.1 pc = .ok (.getfield 9, 3)) (n : Nat) (en : pc + 3 = n) (kk : Z X M d kc ks r hp' n L (.retAddr 2 :: st) hp) : Z X M d kc ks r hp' pc L (.retAddr 1 :: st) hp := by
  subst en
  intro G B p l e R s m args below meth c Q H locs cells slots ls A F h hS h1 h2 h3 h4 hl
  exact vk_getf (own := "java/lang/String") A.1 A.2.1 (A.2.2.2.2.2.2.1.2.2.2.2.2.2.1.1 0 (by decide)).2.2.1 hS (by rw [← hM]; exact A.2.2.2.1) (A.2.2.2.2.1 _ zx_1) (fun x h => h) hdg (kk G B p l e R s m args below meth c Q H locs cells slots ls A F h hS h1 h2 h3 h4 hl)
theorem z_getSc {X : zS} {M : zM} {d kc ks : Nat} {r : Option Value} {hp' : List zC} {pc : Nat} {L : List (Option Value)} {st : List Value} {hp : List zC} (hM : M.1.cls = "java/lang/String") (hdg : decode M.2.1 pc = .ok (.getfield 15, 3)) (n : Nat) (en : pc + 3 = n) (kk : Z X M d kc ks r hp' n L (.int 0 :: st) hp) : Z X M d kc ks r hp' pc L (.retAddr 1 :: st) hp := by
  subst en
  intro G B p l e R s m args below meth c Q H locs cells slots ls A F h hS h1 h2 h3 h4 hl
  exact vk_getf (own := "java/lang/String") A.1 A.2.1 (A.2.2.2.2.2.2.1.2.2.2.2.2.2.1.1 0 (by decide)).2.1 hS (by rw [← hM]; exact A.2.2.2.1) (A.2.2.2.2.1 _ zx_2) (fun x h => h) hdg (kk G B p l e R s m args below meth c Q H locs cells slots ls A F h hS h1 h2 h3 h4 hl)
theorem z_alenS {X : zS} {M : zM} {d kc ks : Nat} {r : Option Value} {hp' : List zC} {pc : Nat} {L : List (Option Value)} {st : List Value} {hp : List zC}  (hdg : decode M.2.1 pc = .ok (.arraylength, 1)) (n : Nat) (en : pc + 1 = n) (kk : Z X M d kc ks r hp' n L (.int 8 :: st) hp) : Z X M d kc ks r hp' pc L (.retAddr 2 :: st) hp := by
  subst en
  intro G B p l e R s m args below meth c Q H locs cells slots ls A F h hS h1 h2 h3 h4 hl
  exact va_tlen (N := 8) A.1 A.2.1 (A.2.2.2.2.2.2.1.2.2.2.2.2.2.1.1 0 (by decide)).2.2.2 hS (by decide) hdg (kk G B p l e R s m args below meth c Q H locs cells slots ls A F h hS h1 h2 h3 h4 hl)
theorem z_baldS {X : zS} {M : zM} {d kc ks : Nat} {r : Option Value} {hp' : List zC} {pc : Nat} {L : List (Option Value)} {st : List Value} {hp : List zC} {i : Int32} {j : Nat} (hi : i = nI j) (hj : j < 8) (hdg : decode M.2.1 pc = .ok (.baload, 1)) (n : Nat) (en : pc + 1 = n) (kk : Z X M d kc ks r hp' n L (.int (zStr.getD j 0) :: st) hp) : Z X M d kc ks r hp' pc L (.int i :: .retAddr 2 :: st) hp := by
  subst en
  intro G B p l e R s m args below meth c Q H locs cells slots ls A F h hS h1 h2 h3 h4 hl
  subst hi
  exact va_tb (N := 8) A.1 A.2.1 (A.2.2.2.2.2.2.1.2.2.2.2.2.2.1.1 0 (by decide)).2.2.2 hS (vp_in_nI hj (by decide)) (by rw [nI_clamp (by omega)]; rfl) hdg (kk G B p l e R s m args below meth c Q H locs cells slots ls A F h hS h1 h2 h3 h4 hl)
theorem z_getsC {X : zS} {M : zM} {d kc ks : Nat} {r : Option Value} {hp' : List zC} {pc : Nat} {L : List (Option Value)} {st : List Value} {hp : List zC} (hM : M.1.cls = "java/lang/String") (hdg : decode M.2.1 pc = .ok (.getstatic 38, 3)) (n : Nat) (en : pc + 3 = n) (kk : Z X M d kc ks r hp' n L (.int 1 :: st) hp) : Z X M d kc ks r hp' pc L st hp := by
  subst en
  intro G B p l e R s m args below meth c Q H locs cells slots ls A F h hS h1 h2 h3 h4 hl
  exact va_gets (own := "java/lang/String") A.1 A.2.1 A.2.2.2.2.2.2.1.2.2.2.2.2.2.2.1.1 hS (by rw [← hM]; exact A.2.2.2.1) (A.2.2.2.2.1 _ zx_3) (fun x h => h) hdg (kk G B p l e R s m args below meth c Q H locs cells slots ls A F h hS h1 h2 h3 h4 hl)
theorem z_getsF {X : zS} {M : zM} {d kc ks : Nat} {r : Option Value} {hp' : List zC} {pc : Nat} {L : List (Option Value)} {st : List Value} {hp : List zC} (hM : M.1.cls = "java/lang/String") (hdg : decode M.2.1 pc = .ok (.getstatic 1053, 3)) (n : Nat) (en : pc + 3 = n) (kk : Z X M d kc ks r hp' n L (.null :: st) hp) (kk2 : Z X M d kc ks r hp' n L (.retAddr 3 :: st) hp) : Z X M d kc ks r hp' pc L st hp := by
  subst en
  intro G B p l e R s m args below meth c Q H locs cells slots ls A F h hS h1 h2 h3 h4 hl
  rcases A.2.2.2.2.2.2.1.2.2.2.2.2.2.2.1.2 with hz | hz
  · exact va_gets (own := "java/lang/String") A.1 A.2.1 hz hS (by rw [← hM]; exact A.2.2.2.1) (A.2.2.2.2.1 _ zx_4) (fun x h => h) hdg (kk G B p l e R s m args below meth c Q H locs cells slots ls A F h hS h1 h2 h3 h4 hl)
  · exact va_gets (own := "java/lang/String") A.1 A.2.1 hz hS (by rw [← hM]; exact A.2.2.2.1) (A.2.2.2.2.1 _ zx_4) (fun x h => h) hdg (kk2 G B p l e R s m args below meth c Q H locs cells slots ls A F h hS h1 h2 h3 h4 hl)
theorem z_invX {X : zS} {M : zM} {d kc ks : Nat} {r : Option Value} {hp' : List zC} {pc : Nat} {L : List (Option Value)} {st : List Value} {hp : List zC} {as : List Value} {v : Value} {M' : zM} {ix nn d' mc ms kc1 ks1 : Nat} {hp1 : List zC} {st0 : List Value} (hdg : decode M.2.1 pc = .ok (.invokevirtual ix, 3)) (n : Nat) (en : pc + 3 = n) (hm : zcM M' nn) (hlk : Cond.methodLink M.1.cls ix M'.1 ∈ zT) (hi : Cond.instanceMethod M'.1 ∈ zT) (hsel : Cond.selects "java/lang/String" M'.1 M'.1 ∈ zT) (hr : Ret d' mc ms M' (.retAddr 1 :: as) hp (some v) hp1) (hst : st0 = (as.reverse ++ .retAddr 1 :: st)) (hn : as.length = nn) (hd : d' + 1 ≤ d) (hkc : kc = kc1 + mc) (hks : ks = ks1 + ms) (hw : (st.map fun v => v.category).sum ≤ 8) (kk : Z X M d kc1 ks1 r hp' n L (v :: st) hp1) : Z X M d kc ks r hp' pc L st0 hp := by
  subst en
  subst hst
  intro G B p l e R s m args below meth c Q H locs cells slots ls A F h hS h1 h2 h3 h4 hl
  have hsz : ls.size = M.2.2.1 := hl.1
  have hlen : (as.map (zr B G.2.2)).length = nn := by rw [List.length_map]; exact hn
  have hpre : PreV s H "java/lang/String" (G.2.2 1) (va_Pc ((.retAddr 1 :: as).map (zr B G.2.2)) (fun U => zH G B hp U.heap ∧ zK G U ∧ zX X G B U U.heap)) (as.map (zr B G.2.2)) := ⟨z_blind _, vk_recv (i := 0) A.2.2.2.2.2.2.1.2.2.2.2.2.2.1 (by decide) hS, (z_preS A hS h ((.retAddr 1 :: as).map (zr B G.2.2))).2⟩
  refine z_run (X := X) (M := M) (G := G) (av := #[]) (rest := st.map (zr B G.2.2)) (r := ((some v) : Option Value).map (zr B G.2.2)) (hp1 := hp1) hS (va_runV (b := G.2.2 1) (C := "java/lang/String") (As := as.map (zr B G.2.2)) ⟨A.1, A.2.1, A.2.2.1, A.2.2.2.1, A.2.2.2.2.1⟩ (hr X l G B) ⟨z_callB A hm hlk hd h1 h2, A.2.2.2.2.1 _ hi, A.2.2.2.2.1 _ hsel⟩ hpre rfl hlen hsz (by rw [List.map_append, List.map_reverse]; rfl) (lv_room (z_cats hw)) hdg ⟨by omega, by omega⟩) (fun H1 locs1 g1 g2 => ?_)
  exact kk G B p l e R s m args below meth c Q H1 locs1 (cells + mc) (slots + ms) ls A F g1 g2 h1 h2 (by omega) (by omega) hl
set_option maxHeartbeats 400000 in
theorem r_Pre_checkIndex_n {hp : List zC} (i : Nat) (hi : i < 8) : Ret 0 0 0 m_Pre_checkIndex [.int (nI i), .int 8, .null] (hp) (some (.int (nI i))) (hp) := by
  refine Ret.of (n := 0) (by decide) (rfl) rfl (fun X => ?_)
  refine z_iload_n d_Pre_checkIndex_0 rfl 1 rfl ?_
  refine z_if_lt d_Pre_checkIndex_1 9 4 (by decide) rfl (fun hzz => absurd hzz (nI_pos (by omega))) (fun h1 => ?_)
  refine z_iload_n d_Pre_checkIndex_4 rfl 5 rfl ?_
  refine z_iload_n d_Pre_checkIndex_5 rfl 6 rfl ?_
  refine z_icmp_lt d_Pre_checkIndex_6 16 9 (by decide) rfl (fun h2 => ?_) (fun hzz => absurd (show nI i < nI 8 from nI_lt hi (by decide)) hzz)
  refine z_iload_n d_Pre_checkIndex_16 rfl 17 rfl ?_
  exact z_ireturn d_Pre_checkIndex_17 (rfl) (rfl)
set_option maxHeartbeats 400000 in
theorem r_Pre_checkIndex_x {hp : List zC} (i : Nat) (hi : i < 8) : Ret 0 0 0 m_Pre_checkIndex [.int (nI i), .int 8, .retAddr 3] (hp) (some (.int (nI i))) (hp) := by
  refine Ret.of (n := 0) (by decide) (rfl) rfl (fun X => ?_)
  refine z_iload_n d_Pre_checkIndex_0 rfl 1 rfl ?_
  refine z_if_lt d_Pre_checkIndex_1 9 4 (by decide) rfl (fun hzz => absurd hzz (nI_pos (by omega))) (fun h1 => ?_)
  refine z_iload_n d_Pre_checkIndex_4 rfl 5 rfl ?_
  refine z_iload_n d_Pre_checkIndex_5 rfl 6 rfl ?_
  refine z_icmp_lt d_Pre_checkIndex_6 16 9 (by decide) rfl (fun h2 => ?_) (fun hzz => absurd (show nI i < nI 8 from nI_lt hi (by decide)) hzz)
  refine z_iload_n d_Pre_checkIndex_16 rfl 17 rfl ?_
  exact z_ireturn d_Pre_checkIndex_17 (rfl) (rfl)
set_option maxHeartbeats 400000 in
theorem r_Str_checkIndex {hp : List zC} (i : Nat) (hi : i < 8) : Ret 1 0 0 m_Str_checkIndex [.int (nI i), .int 8] (hp) (none) (hp) := by
  refine Ret.of (n := 0) (by decide) (trivial) rfl (fun X => ?_)
  refine z_iload_n d_Str_checkIndex_0 rfl 1 rfl ?_
  refine z_iload_n d_Str_checkIndex_1 rfl 2 rfl ?_
  refine z_getsF rfl d_Str_checkIndex_2 5 rfl ?_ ?_
  · refine z_invs d_Str_checkIndex_5 8 rfl hm_Pre_checkIndex lk_Str_1059 st_Pre_checkIndex (r_Pre_checkIndex_n i hi) rfl rfl (by decide) rfl rfl (Nat.le_of_ble_eq_true rfl) ?_
    refine z_pop d_Str_checkIndex_8 rfl 9 rfl ?_
    exact z_return d_Str_checkIndex_9 rfl rfl
  · refine z_invs d_Str_checkIndex_5 8 rfl hm_Pre_checkIndex lk_Str_1059 st_Pre_checkIndex (r_Pre_checkIndex_x i hi) rfl rfl (by decide) rfl rfl (Nat.le_of_ble_eq_true rfl) ?_
    refine z_pop d_Str_checkIndex_8 rfl 9 rfl ?_
    exact z_return d_Str_checkIndex_9 rfl rfl
set_option maxHeartbeats 400000 in
theorem r_SLa_charAt {hp : List zC} (i : Nat) (hi : i < 8) : Ret 2 0 0 m_SLa_charAt [.retAddr 2, .int (nI i)] (hp) (some (.int (zStr.getD i 0))) (hp) := by
  refine Ret.of (n := 0) (by decide) (by rcases (show i = 0 ∨ i = 1 ∨ i = 2 ∨ i = 3 ∨ i = 4 ∨ i = 5 ∨ i = 6 ∨ i = 7 by omega) with rfl | rfl | rfl | rfl | rfl | rfl | rfl | rfl <;> rfl) rfl (fun X => ?_)
  refine z_iload_n d_SLa_charAt_0 rfl 1 rfl ?_
  refine z_aload_nX d_SLa_charAt_1 rfl 2 rfl ?_
  refine z_alenS  d_SLa_charAt_2 3 rfl ?_
  refine z_invsv d_SLa_charAt_3 6 rfl hm_Str_checkIndex lk_SLa_9 st_Str_checkIndex (r_Str_checkIndex i hi) rfl rfl (by decide) rfl rfl (Nat.le_of_ble_eq_true rfl) ?_
  refine z_aload_nX d_SLa_charAt_6 rfl 7 rfl ?_
  refine z_iload_n d_SLa_charAt_7 rfl 8 rfl ?_
  refine z_baldS rfl hi d_SLa_charAt_8 9 rfl ?_
  refine z_sipush d_SLa_charAt_9 255 (by decide) 12 rfl ?_
  refine z_iand d_SLa_charAt_12 13 rfl ?_
  refine z_i2c d_SLa_charAt_13 14 rfl ?_
  exact z_ireturn d_SLa_charAt_14 (by rcases (show i = 0 ∨ i = 1 ∨ i = 2 ∨ i = 3 ∨ i = 4 ∨ i = 5 ∨ i = 6 ∨ i = 7 by omega) with rfl | rfl | rfl | rfl | rfl | rfl | rfl | rfl <;> rfl) (rfl)
set_option maxHeartbeats 400000 in
theorem r_Str_isLatin1 {hp : List zC}  : Ret 0 0 0 m_Str_isLatin1 [.retAddr 1] (hp) (some (.int 1)) (hp) := by
  refine Ret.of (n := 0) (by decide) (rfl) rfl (fun X => ?_)
  refine z_getsC rfl d_Str_isLatin1_0 3 rfl ?_
  refine z_if_eq d_Str_isLatin1_3 17 6 (by decide) rfl (fun hzz => absurd hzz (by decide)) (fun h1 => ?_)
  refine z_aload_nX d_Str_isLatin1_6 rfl 7 rfl ?_
  refine z_getSc rfl d_Str_isLatin1_7 10 rfl ?_
  refine z_if_ne d_Str_isLatin1_10 17 13 (by decide) rfl (fun hzz => absurd rfl hzz) (fun h2 => ?_)
  refine z_iconst d_Str_isLatin1_13 1 (by decide) 14 rfl ?_
  refine z_goto d_Str_isLatin1_14 18 (by decide) ?_
  exact z_ireturn d_Str_isLatin1_18 (rfl) (rfl)
set_option maxHeartbeats 400000 in
theorem r_Str_coder {hp : List zC}  : Ret 0 0 0 m_Str_coder [.retAddr 1] (hp) (some (.int 0)) (hp) := by
  refine Ret.of (n := 0) (by decide) (rfl) rfl (fun X => ?_)
  refine z_getsC rfl d_Str_coder_0 3 rfl ?_
  refine z_if_eq d_Str_coder_3 13 6 (by decide) rfl (fun hzz => absurd hzz (by decide)) (fun h1 => ?_)
  refine z_aload_nX d_Str_coder_6 rfl 7 rfl ?_
  refine z_getSc rfl d_Str_coder_7 10 rfl ?_
  refine z_goto d_Str_coder_10 14 (by decide) ?_
  exact z_ireturn d_Str_coder_14 (rfl) (rfl)
set_option maxHeartbeats 400000 in
theorem r_Str_length {hp : List zC}  : Ret 1 0 0 m_Str_length [.retAddr 1] (hp) (some (.int 8)) (hp) := by
  refine Ret.of (n := 0) (by decide) (rfl) rfl (fun X => ?_)
  refine z_aload_nX d_Str_length_0 rfl 1 rfl ?_
  refine z_getSv rfl d_Str_length_1 4 rfl ?_
  refine z_alenS  d_Str_length_4 5 rfl ?_
  refine z_aload_nX d_Str_length_5 rfl 6 rfl ?_
  refine z_invX d_Str_length_6 9 rfl hm_Str_coder lk_Str_335 im_Str_coder sl_Str_Str_coder (r_Str_coder) rfl rfl (by decide) rfl rfl (Nat.le_of_ble_eq_true rfl) ?_
  refine z_ishr d_Str_length_9 10 rfl ?_
  exact z_ireturn d_Str_length_10 (rfl) (rfl)
set_option maxHeartbeats 400000 in
theorem r_Str_charAt {hp : List zC} (i : Nat) (hi : i < 8) : Ret 3 0 0 m_Str_charAt [.retAddr 1, .int (nI i)] (hp) (some (.int (zStr.getD i 0))) (hp) := by
  refine Ret.of (n := 0) (by decide) (by rcases (show i = 0 ∨ i = 1 ∨ i = 2 ∨ i = 3 ∨ i = 4 ∨ i = 5 ∨ i = 6 ∨ i = 7 by omega) with rfl | rfl | rfl | rfl | rfl | rfl | rfl | rfl <;> rfl) rfl (fun X => ?_)
  refine z_aload_nX d_Str_charAt_0 rfl 1 rfl ?_
  refine z_invX d_Str_charAt_1 4 rfl hm_Str_isLatin1 lk_Str_492 im_Str_isLatin1 sl_Str_Str_isLatin1 (r_Str_isLatin1) rfl rfl (by decide) rfl rfl (Nat.le_of_ble_eq_true rfl) ?_
  refine z_if_eq d_Str_charAt_4 16 7 (by decide) rfl (fun hzz => absurd hzz (by decide)) (fun h1 => ?_)
  refine z_aload_nX d_Str_charAt_7 rfl 8 rfl ?_
  refine z_getSv rfl d_Str_charAt_8 11 rfl ?_
  refine z_iload_n d_Str_charAt_11 rfl 12 rfl ?_
  refine z_invs d_Str_charAt_12 15 rfl hm_SLa_charAt lk_Str_495 st_SLa_charAt (r_SLa_charAt i hi) rfl rfl (by decide) rfl rfl (Nat.le_of_ble_eq_true rfl) ?_
  exact z_ireturn d_Str_charAt_15 (rfl) (rfl)
