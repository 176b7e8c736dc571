theorem ap_at {A L : List zC} {n k : Nat} {c : zC} (hA : A.length = n) (h : L[k]? = some c) : (A ++ L)[n + k]? = some c := by
  subst hA
  rw [List.getElem?_append_right (Nat.le_add_right _ _), Nat.add_sub_cancel_left]; exact h
theorem ap_set {A L : List zC} {n k : Nat} {c : zC} (hA : A.length = n) : (A ++ L).set (n + k) c = A ++ L.set k c := by
  subst hA
  rw [List.set_append_right _ _ (Nat.le_add_right _ _), Nat.add_sub_cancel_left]
theorem ap_len {A L : List zC} {n : Nat} (hA : A.length = n) : (A ++ L).length = n + L.length := by
  rw [List.length_append, hA]
theorem lrow_eq (b : Nat) : va_up (va_up (va_up (va_up (va_up (va_up (fun _ => none) 0 (some b)) 1 (some (b + 2))) 2 (some (b + 4))) 3 (some (b + 6))) 4 (some (b + 8))) 5 (some (b + 10)) = lrow b := by
  funext j
  unfold va_up lrow
  by_cases h5 : j = 5
  · subst h5; rfl
  by_cases h4 : j = 4
  · subst h4; rfl
  by_cases h3 : j = 3
  · subst h3; rfl
  by_cases h2 : j = 2
  · subst h2; rfl
  by_cases h1 : j = 1
  · subst h1; rfl
  by_cases h0 : j = 0
  · subst h0; rfl
  simp [h0, h1, h2, h3, h4, h5, show ¬ j < 6 by omega]
def cnd0 : Nat → Int32 := upd (upd (upd (fun _ => 0) 1 999) 3 999) 4 255
def sI : Nat → Nat → Int32
  | 0 => fun _ => 0
  | i + 1 => upd (upd (upd (upd (sI i) (186 + 8 * i + 1) 999) (186 + 8 * i + 3) 999) (186 + 8 * i + 4) 255) (186 + 8 * i + 7) 10
set_option maxHeartbeats 400000 in
theorem r_Ben_init {A : List zC} {n : Nat} (hA : A.length = n) : Ret 1 0 0 m_Ben_init [.ref n] (A ++ [.inr (.inr (0, [.int 0, .int 0, .int 0, .int 0]))]) none (A ++ [.inr (.inr (0, [.int 0, .int 0, .int 0, .int 0]))]) := by
  refine Ret.of (n := 0) (by decide) (trivial) rfl (fun X => ?_)
  refine z_aload_n d_Ben_init_0 rfl 1 rfl ?_
  refine z_objInit d_Ben_init_1 4 rfl lk_Ben_3 zo_2 zo_3 (by decide) (Nat.le_of_ble_eq_true rfl) ?_
  exact z_return d_Ben_init_4 rfl (rfl)
set_option maxHeartbeats 400000 in
theorem r_Tap_init {A : List zC} {n : Nat} (hA : A.length = n) : Ret 1 1 24 m_Tap_init [.ref n] (A ++ [.inr (.inr (7, [.null, .int 0, .int 0, .int 0, .int 0, .int 0, .int 0, .int 0, .int 0]))]) none (A ++ [.inr (.inr (7, [.ref (n + 1), .int 0, .int 0, .int 0, .int 0, .int 0, .int 0, .int 0, .int 0])), .inl (24, fun _ => 0)]) := by
  refine Ret.of (n := 0) (by decide) (trivial) rfl (fun X => ?_)
  refine z_aload_n d_Tap_init_0 rfl 1 rfl ?_
  refine z_objInit d_Tap_init_1 4 rfl lk_Tap_3 zo_2 zo_3 (by decide) (Nat.le_of_ble_eq_true rfl) ?_
  refine z_aload_n d_Tap_init_4 rfl 5 rfl ?_
  refine z_bipush d_Tap_init_5 24 (by decide) 7 rfl ?_
  refine z_newarray (kc1 := 0) (ks1 := 0) d_Tap_init_7 24 9 (n + 1) (A ++ [.inr (.inr (7, [.null, .int 0, .int 0, .int 0, .int 0, .int 0, .int 0, .int 0, .int 0])), .inl (24, fun _ => 0)]) rfl zw_int rfl (by decide) rfl rfl (ap_len hA) (List.append_assoc A _ _) ?_
  refine z_put d_Tap_init_9 12 rfl fp_Tap_9_7 (Or.inr rfl) (ap_at hA (k := 0) rfl) (fun _ _ => rfl) (fun _ _ => rfl) (by simp) ?_
  refine z_hp (hp1 := A ++ [.inr (.inr (7, [.ref (n + 1), .int 0, .int 0, .int 0, .int 0, .int 0, .int 0, .int 0, .int 0])), .inl (24, fun _ => 0)]) (ap_set (k := 0) hA) ?_
  exact z_return d_Tap_init_12 rfl (rfl)
set_option maxHeartbeats 400000 in
theorem r_Law_init {A : List zC} {n : Nat} (hA : A.length = n) : Ret 1 1 7 m_Law_init [.ref n] (A ++ [.inr (.inr (4, [.null, .int 0]))]) none (A ++ [.inr (.inr (4, [.ref (n + 1), .int 10])), .inl (7, cnd0)]) := by
  refine Ret.of (n := 0) (by decide) (trivial) rfl (fun X => ?_)
  refine z_aload_n d_Law_init_0 rfl 1 rfl ?_
  refine z_objInit d_Law_init_1 4 rfl lk_Law_3 zo_2 zo_3 (by decide) (Nat.le_of_ble_eq_true rfl) ?_
  refine z_aload_n d_Law_init_4 rfl 5 rfl ?_
  refine z_bipush d_Law_init_5 7 (by decide) 7 rfl ?_
  refine z_newarray (kc1 := 0) (ks1 := 0) d_Law_init_7 7 9 (n + 1) (A ++ [.inr (.inr (4, [.null, .int 0])), .inl (7, fun _ => 0)]) rfl zw_int rfl (by decide) rfl rfl (ap_len hA) (List.append_assoc A _ _) ?_
  refine z_put d_Law_init_9 12 rfl fp_Law_9_4 (Or.inr rfl) (ap_at hA (k := 0) rfl) (fun _ _ => rfl) (fun _ _ => rfl) (by simp) ?_
  refine z_hp (hp1 := A ++ [.inr (.inr (4, [.ref (n + 1), .int 0])), .inl (7, fun _ => 0)]) (ap_set (k := 0) hA) ?_
  refine z_aload_n d_Law_init_12 rfl 13 rfl ?_
  refine z_get d_Law_init_13 16 rfl fl_Law_9_4 (ap_at hA (k := 0) rfl) rfl ?_
  refine z_iconst d_Law_init_16 1 (by decide) 17 rfl ?_
  refine z_sipush d_Law_init_17 999 (by decide) 20 rfl ?_
  refine z_iastore d_Law_init_20 1 21 rfl (ap_at hA (k := 1) rfl) rfl (by decide) (by decide) ?_
  refine z_hp (hp1 := A ++ [.inr (.inr (4, [.ref (n + 1), .int 0])), .inl (7, upd (fun _ => 0) 1 999)]) (ap_set (k := 1) hA) ?_
  refine z_aload_n d_Law_init_21 rfl 22 rfl ?_
  refine z_get d_Law_init_22 25 rfl fl_Law_9_4 (ap_at hA (k := 0) rfl) rfl ?_
  refine z_iconst d_Law_init_25 3 (by decide) 26 rfl ?_
  refine z_sipush d_Law_init_26 999 (by decide) 29 rfl ?_
  refine z_iastore d_Law_init_29 3 30 rfl (ap_at hA (k := 1) rfl) rfl (by decide) (by decide) ?_
  refine z_hp (hp1 := A ++ [.inr (.inr (4, [.ref (n + 1), .int 0])), .inl (7, upd (upd (fun _ => 0) 1 999) 3 999)]) (ap_set (k := 1) hA) ?_
  refine z_aload_n d_Law_init_30 rfl 31 rfl ?_
  refine z_get d_Law_init_31 34 rfl fl_Law_9_4 (ap_at hA (k := 0) rfl) rfl ?_
  refine z_iconst d_Law_init_34 4 (by decide) 35 rfl ?_
  refine z_sipush d_Law_init_35 255 (by decide) 38 rfl ?_
  refine z_iastore d_Law_init_38 4 39 rfl (ap_at hA (k := 1) rfl) rfl (by decide) (by decide) ?_
  refine z_hp (hp1 := A ++ [.inr (.inr (4, [.ref (n + 1), .int 0])), .inl (7, upd (upd (upd (fun _ => 0) 1 999) 3 999) 4 255)]) (ap_set (k := 1) hA) ?_
  refine z_aload_n d_Law_init_39 rfl 40 rfl ?_
  refine z_bipush d_Law_init_40 10 (by decide) 42 rfl ?_
  refine z_put d_Law_init_42 45 rfl fp_Law_15_4 (Or.inr rfl) (ap_at hA (k := 0) rfl) (fun _ _ => rfl) (fun _ _ => rfl) (by simp) ?_
  refine z_hp (hp1 := A ++ [.inr (.inr (4, [.ref (n + 1), .int 10])), .inl (7, upd (upd (upd (fun _ => 0) 1 999) 3 999) 4 255)]) (ap_set (k := 0) hA) ?_
  exact z_return d_Law_init_45 rfl (rfl)
set_option maxHeartbeats 400000 in
theorem r_Roo_init {A : List zC} {n : Nat} (hA : A.length = n) : Ret 2 19 126 m_Roo_init [.ref n] (A ++ [.inr (.inr (6, [.null, .null, .null, .null, .null, .null, .null, .int 0, .int 0, .int 0, .int 0]))]) none (A ++ [.inr (.inr (6, [.ref (n + 1), .ref (n + 2), .ref (n + 15), .ref (n + 16), .ref (n + 17), .ref (n + 18), .ref (n + 19), .int 0, .int 0, .int 0, .int 0])), .inr (.inl (1, 30, fun _ => none)), .inr (.inl (0, 6, lrow (n + 3))), .inr (.inr (4, [.ref (n + 4), .int 10])), .inl (7, cnd0), .inr (.inr (4, [.ref (n + 6), .int 10])), .inl (7, cnd0), .inr (.inr (4, [.ref (n + 8), .int 10])), .inl (7, cnd0), .inr (.inr (4, [.ref (n + 10), .int 10])), .inl (7, cnd0), .inr (.inr (4, [.ref (n + 12), .int 10])), .inl (7, cnd0), .inr (.inr (4, [.ref (n + 14), .int 10])), .inl (7, cnd0), .inr (.inl (1, 10, fun _ => none)), .inr (.inl (1, 10, fun _ => none)), .inl (2, fun _ => 0), .inl (10, fun _ => 0), .inr (.inr (0, [.int 0, .int 0, .int 0, .int 0]))]) := by
  refine Ret.of (n := 1) (by decide) (trivial) rfl (fun X => ?_)
  refine z_aload_n d_Roo_init_0 rfl 1 rfl ?_
  refine z_objInit d_Roo_init_1 4 rfl lk_Roo_3 zo_2 zo_3 (by decide) (Nat.le_of_ble_eq_true rfl) ?_
  refine z_aload_n d_Roo_init_4 rfl 5 rfl ?_
  refine z_bipush d_Roo_init_5 30 (by decide) 7 rfl ?_
  refine z_anewarray (kc1 := 18) (ks1 := 96) d_Roo_init_7 30 10 (n + 1) (A ++ [.inr (.inr (6, [.null, .null, .null, .null, .null, .null, .null, .int 0, .int 0, .int 0, .int 0])), .inr (.inl (1, 30, fun _ => none))]) rfl (Or.inr rfl) cl_Roo_9 rfl (by decide) rfl rfl (ap_len hA) (List.append_assoc A _ _) ?_
  refine z_put d_Roo_init_10 13 rfl fp_Roo_11_6 (Or.inr rfl) (ap_at hA (k := 0) rfl) (fun _ _ => rfl) (fun _ _ => rfl) (by simp) ?_
  refine z_hp (hp1 := A ++ [.inr (.inr (6, [.ref (n + 1), .null, .null, .null, .null, .null, .null, .int 0, .int 0, .int 0, .int 0])), .inr (.inl (1, 30, fun _ => none))]) (ap_set (k := 0) hA) ?_
  refine z_aload_n d_Roo_init_13 rfl 14 rfl ?_
  refine z_bipush d_Roo_init_14 6 (by decide) 16 rfl ?_
  refine z_anewarray (kc1 := 17) (ks1 := 90) d_Roo_init_16 6 19 (n + 2) (A ++ [.inr (.inr (6, [.ref (n + 1), .null, .null, .null, .null, .null, .null, .int 0, .int 0, .int 0, .int 0])), .inr (.inl (1, 30, fun _ => none)), .inr (.inl (0, 6, fun _ => none))]) rfl (Or.inl rfl) cl_Roo_17 rfl (by decide) rfl rfl (ap_len hA) (List.append_assoc A _ _) ?_
  refine z_put d_Roo_init_19 22 rfl fp_Roo_19_6 (Or.inr rfl) (ap_at hA (k := 0) rfl) (fun _ _ => rfl) (fun _ _ => rfl) (by simp) ?_
  refine z_hp (hp1 := A ++ [.inr (.inr (6, [.ref (n + 1), .ref (n + 2), .null, .null, .null, .null, .null, .int 0, .int 0, .int 0, .int 0])), .inr (.inl (1, 30, fun _ => none)), .inr (.inl (0, 6, fun _ => none))]) (ap_set (k := 0) hA) ?_
  refine z_iconst d_Roo_init_22 0 (by decide) 23 rfl ?_
  refine z_istore_n d_Roo_init_23 24 rfl (by decide) rfl ?_
  refine z_iload_n d_Roo_init_24 rfl 25 rfl ?_
  refine z_aload_n d_Roo_init_25 rfl 26 rfl ?_
  refine z_get d_Roo_init_26 29 rfl fl_Roo_19_6 (ap_at hA (k := 0) rfl) rfl ?_
  refine z_alenR d_Roo_init_29 30 rfl (ap_at hA (k := 2) rfl) (Or.inl rfl) 6 (by decide) ?_
  refine z_icmp_ge d_Roo_init_30 52 33 (by decide) rfl (fun hzz => absurd hzz (by decide)) (fun _ => ?_)
  refine z_aload_n d_Roo_init_33 rfl 34 rfl ?_
  refine z_get d_Roo_init_34 37 rfl fl_Roo_19_6 (ap_at hA (k := 0) rfl) rfl ?_
  refine z_iload_n d_Roo_init_37 rfl 38 rfl ?_
  refine z_new (kc1 := 16) (ks1 := 88) d_Roo_init_38 41 (n + 3) _ rfl nw_Roo_17 (fun _ _ => rfl) rfl rfl (ap_len hA) rfl ?_
  refine z_dup d_Roo_init_41 rfl 42 rfl ?_
  refine z_invI (kc1 := 15) (ks1 := 81) d_Roo_init_42 45 rfl hm_Law_init lk_Roo_23 im_Law_init rfl rfl (r_Law_init (n := n + 3) (ap_len hA)) rfl rfl (by decide) rfl rfl (Nat.le_of_ble_eq_true rfl) ?_
  refine z_hp (hp1 := A ++ [.inr (.inr (6, [.ref (n + 1), .ref (n + 2), .null, .null, .null, .null, .null, .int 0, .int 0, .int 0, .int 0])), .inr (.inl (1, 30, fun _ => none)), .inr (.inl (0, 6, fun _ => none)), .inr (.inr (4, [.ref (n + 4), .int 10])), .inl (7, cnd0)]) (List.append_assoc A _ _) ?_
  refine z_aastore (C := "") d_Roo_init_45 0 46 rfl (ap_at hA (k := 2) rfl) (ap_at hA (k := 3) rfl) rfl (Or.inl ⟨rfl, rfl⟩) rfl (by decide) (by decide) ?_
  refine z_hp (hp1 := A ++ [.inr (.inr (6, [.ref (n + 1), .ref (n + 2), .null, .null, .null, .null, .null, .int 0, .int 0, .int 0, .int 0])), .inr (.inl (1, 30, fun _ => none)), .inr (.inl (0, 6, va_up (fun _ => none) 0 (some (n + 3)))), .inr (.inr (4, [.ref (n + 4), .int 10])), .inl (7, cnd0)]) (ap_set (k := 2) hA) ?_
  refine z_iinc d_Roo_init_46 1 (by decide) 49 rfl rfl (by decide) rfl ?_
  refine z_L ([some (.ref n), some (.int 1)]) rfl ?_
  refine z_goto d_Roo_init_49 24 (by decide) ?_
  refine z_iload_n d_Roo_init_24 rfl 25 rfl ?_
  refine z_aload_n d_Roo_init_25 rfl 26 rfl ?_
  refine z_get d_Roo_init_26 29 rfl fl_Roo_19_6 (ap_at hA (k := 0) rfl) rfl ?_
  refine z_alenR d_Roo_init_29 30 rfl (ap_at hA (k := 2) rfl) (Or.inl rfl) 6 (by decide) ?_
  refine z_icmp_ge d_Roo_init_30 52 33 (by decide) rfl (fun hzz => absurd hzz (by decide)) (fun _ => ?_)
  refine z_aload_n d_Roo_init_33 rfl 34 rfl ?_
  refine z_get d_Roo_init_34 37 rfl fl_Roo_19_6 (ap_at hA (k := 0) rfl) rfl ?_
  refine z_iload_n d_Roo_init_37 rfl 38 rfl ?_
  refine z_new (kc1 := 14) (ks1 := 79) d_Roo_init_38 41 (n + 5) _ rfl nw_Roo_17 (fun _ _ => rfl) rfl rfl (ap_len hA) rfl ?_
  refine z_dup d_Roo_init_41 rfl 42 rfl ?_
  refine z_invI (kc1 := 13) (ks1 := 72) d_Roo_init_42 45 rfl hm_Law_init lk_Roo_23 im_Law_init rfl rfl (r_Law_init (n := n + 5) (ap_len hA)) rfl rfl (by decide) rfl rfl (Nat.le_of_ble_eq_true rfl) ?_
  refine z_hp (hp1 := A ++ [.inr (.inr (6, [.ref (n + 1), .ref (n + 2), .null, .null, .null, .null, .null, .int 0, .int 0, .int 0, .int 0])), .inr (.inl (1, 30, fun _ => none)), .inr (.inl (0, 6, va_up (fun _ => none) 0 (some (n + 3)))), .inr (.inr (4, [.ref (n + 4), .int 10])), .inl (7, cnd0), .inr (.inr (4, [.ref (n + 6), .int 10])), .inl (7, cnd0)]) (List.append_assoc A _ _) ?_
  refine z_aastore (C := "") d_Roo_init_45 1 46 rfl (ap_at hA (k := 2) rfl) (ap_at hA (k := 5) rfl) rfl (Or.inl ⟨rfl, rfl⟩) rfl (by decide) (by decide) ?_
  refine z_hp (hp1 := A ++ [.inr (.inr (6, [.ref (n + 1), .ref (n + 2), .null, .null, .null, .null, .null, .int 0, .int 0, .int 0, .int 0])), .inr (.inl (1, 30, fun _ => none)), .inr (.inl (0, 6, va_up (va_up (fun _ => none) 0 (some (n + 3))) 1 (some (n + 5)))), .inr (.inr (4, [.ref (n + 4), .int 10])), .inl (7, cnd0), .inr (.inr (4, [.ref (n + 6), .int 10])), .inl (7, cnd0)]) (ap_set (k := 2) hA) ?_
  refine z_iinc d_Roo_init_46 1 (by decide) 49 rfl rfl (by decide) rfl ?_
  refine z_L ([some (.ref n), some (.int 2)]) rfl ?_
  refine z_goto d_Roo_init_49 24 (by decide) ?_
  refine z_iload_n d_Roo_init_24 rfl 25 rfl ?_
  refine z_aload_n d_Roo_init_25 rfl 26 rfl ?_
  refine z_get d_Roo_init_26 29 rfl fl_Roo_19_6 (ap_at hA (k := 0) rfl) rfl ?_
  refine z_alenR d_Roo_init_29 30 rfl (ap_at hA (k := 2) rfl) (Or.inl rfl) 6 (by decide) ?_
  refine z_icmp_ge d_Roo_init_30 52 33 (by decide) rfl (fun hzz => absurd hzz (by decide)) (fun _ => ?_)
  refine z_aload_n d_Roo_init_33 rfl 34 rfl ?_
  refine z_get d_Roo_init_34 37 rfl fl_Roo_19_6 (ap_at hA (k := 0) rfl) rfl ?_
  refine z_iload_n d_Roo_init_37 rfl 38 rfl ?_
  refine z_new (kc1 := 12) (ks1 := 70) d_Roo_init_38 41 (n + 7) _ rfl nw_Roo_17 (fun _ _ => rfl) rfl rfl (ap_len hA) rfl ?_
  refine z_dup d_Roo_init_41 rfl 42 rfl ?_
  refine z_invI (kc1 := 11) (ks1 := 63) d_Roo_init_42 45 rfl hm_Law_init lk_Roo_23 im_Law_init rfl rfl (r_Law_init (n := n + 7) (ap_len hA)) rfl rfl (by decide) rfl rfl (Nat.le_of_ble_eq_true rfl) ?_
  refine z_hp (hp1 := A ++ [.inr (.inr (6, [.ref (n + 1), .ref (n + 2), .null, .null, .null, .null, .null, .int 0, .int 0, .int 0, .int 0])), .inr (.inl (1, 30, fun _ => none)), .inr (.inl (0, 6, va_up (va_up (fun _ => none) 0 (some (n + 3))) 1 (some (n + 5)))), .inr (.inr (4, [.ref (n + 4), .int 10])), .inl (7, cnd0), .inr (.inr (4, [.ref (n + 6), .int 10])), .inl (7, cnd0), .inr (.inr (4, [.ref (n + 8), .int 10])), .inl (7, cnd0)]) (List.append_assoc A _ _) ?_
  refine z_aastore (C := "") d_Roo_init_45 2 46 rfl (ap_at hA (k := 2) rfl) (ap_at hA (k := 7) rfl) rfl (Or.inl ⟨rfl, rfl⟩) rfl (by decide) (by decide) ?_
  refine z_hp (hp1 := A ++ [.inr (.inr (6, [.ref (n + 1), .ref (n + 2), .null, .null, .null, .null, .null, .int 0, .int 0, .int 0, .int 0])), .inr (.inl (1, 30, fun _ => none)), .inr (.inl (0, 6, va_up (va_up (va_up (fun _ => none) 0 (some (n + 3))) 1 (some (n + 5))) 2 (some (n + 7)))), .inr (.inr (4, [.ref (n + 4), .int 10])), .inl (7, cnd0), .inr (.inr (4, [.ref (n + 6), .int 10])), .inl (7, cnd0), .inr (.inr (4, [.ref (n + 8), .int 10])), .inl (7, cnd0)]) (ap_set (k := 2) hA) ?_
  refine z_iinc d_Roo_init_46 1 (by decide) 49 rfl rfl (by decide) rfl ?_
  refine z_L ([some (.ref n), some (.int 3)]) rfl ?_
  refine z_goto d_Roo_init_49 24 (by decide) ?_
  refine z_iload_n d_Roo_init_24 rfl 25 rfl ?_
  refine z_aload_n d_Roo_init_25 rfl 26 rfl ?_
  refine z_get d_Roo_init_26 29 rfl fl_Roo_19_6 (ap_at hA (k := 0) rfl) rfl ?_
  refine z_alenR d_Roo_init_29 30 rfl (ap_at hA (k := 2) rfl) (Or.inl rfl) 6 (by decide) ?_
  refine z_icmp_ge d_Roo_init_30 52 33 (by decide) rfl (fun hzz => absurd hzz (by decide)) (fun _ => ?_)
  refine z_aload_n d_Roo_init_33 rfl 34 rfl ?_
  refine z_get d_Roo_init_34 37 rfl fl_Roo_19_6 (ap_at hA (k := 0) rfl) rfl ?_
  refine z_iload_n d_Roo_init_37 rfl 38 rfl ?_
  refine z_new (kc1 := 10) (ks1 := 61) d_Roo_init_38 41 (n + 9) _ rfl nw_Roo_17 (fun _ _ => rfl) rfl rfl (ap_len hA) rfl ?_
  refine z_dup d_Roo_init_41 rfl 42 rfl ?_
  refine z_invI (kc1 := 9) (ks1 := 54) d_Roo_init_42 45 rfl hm_Law_init lk_Roo_23 im_Law_init rfl rfl (r_Law_init (n := n + 9) (ap_len hA)) rfl rfl (by decide) rfl rfl (Nat.le_of_ble_eq_true rfl) ?_
  refine z_hp (hp1 := A ++ [.inr (.inr (6, [.ref (n + 1), .ref (n + 2), .null, .null, .null, .null, .null, .int 0, .int 0, .int 0, .int 0])), .inr (.inl (1, 30, fun _ => none)), .inr (.inl (0, 6, va_up (va_up (va_up (fun _ => none) 0 (some (n + 3))) 1 (some (n + 5))) 2 (some (n + 7)))), .inr (.inr (4, [.ref (n + 4), .int 10])), .inl (7, cnd0), .inr (.inr (4, [.ref (n + 6), .int 10])), .inl (7, cnd0), .inr (.inr (4, [.ref (n + 8), .int 10])), .inl (7, cnd0), .inr (.inr (4, [.ref (n + 10), .int 10])), .inl (7, cnd0)]) (List.append_assoc A _ _) ?_
  refine z_aastore (C := "") d_Roo_init_45 3 46 rfl (ap_at hA (k := 2) rfl) (ap_at hA (k := 9) rfl) rfl (Or.inl ⟨rfl, rfl⟩) rfl (by decide) (by decide) ?_
  refine z_hp (hp1 := A ++ [.inr (.inr (6, [.ref (n + 1), .ref (n + 2), .null, .null, .null, .null, .null, .int 0, .int 0, .int 0, .int 0])), .inr (.inl (1, 30, fun _ => none)), .inr (.inl (0, 6, va_up (va_up (va_up (va_up (fun _ => none) 0 (some (n + 3))) 1 (some (n + 5))) 2 (some (n + 7))) 3 (some (n + 9)))), .inr (.inr (4, [.ref (n + 4), .int 10])), .inl (7, cnd0), .inr (.inr (4, [.ref (n + 6), .int 10])), .inl (7, cnd0), .inr (.inr (4, [.ref (n + 8), .int 10])), .inl (7, cnd0), .inr (.inr (4, [.ref (n + 10), .int 10])), .inl (7, cnd0)]) (ap_set (k := 2) hA) ?_
  refine z_iinc d_Roo_init_46 1 (by decide) 49 rfl rfl (by decide) rfl ?_
  refine z_L ([some (.ref n), some (.int 4)]) rfl ?_
  refine z_goto d_Roo_init_49 24 (by decide) ?_
  refine z_iload_n d_Roo_init_24 rfl 25 rfl ?_
  refine z_aload_n d_Roo_init_25 rfl 26 rfl ?_
  refine z_get d_Roo_init_26 29 rfl fl_Roo_19_6 (ap_at hA (k := 0) rfl) rfl ?_
  refine z_alenR d_Roo_init_29 30 rfl (ap_at hA (k := 2) rfl) (Or.inl rfl) 6 (by decide) ?_
  refine z_icmp_ge d_Roo_init_30 52 33 (by decide) rfl (fun hzz => absurd hzz (by decide)) (fun _ => ?_)
  refine z_aload_n d_Roo_init_33 rfl 34 rfl ?_
  refine z_get d_Roo_init_34 37 rfl fl_Roo_19_6 (ap_at hA (k := 0) rfl) rfl ?_
  refine z_iload_n d_Roo_init_37 rfl 38 rfl ?_
  refine z_new (kc1 := 8) (ks1 := 52) d_Roo_init_38 41 (n + 11) _ rfl nw_Roo_17 (fun _ _ => rfl) rfl rfl (ap_len hA) rfl ?_
  refine z_dup d_Roo_init_41 rfl 42 rfl ?_
  refine z_invI (kc1 := 7) (ks1 := 45) d_Roo_init_42 45 rfl hm_Law_init lk_Roo_23 im_Law_init rfl rfl (r_Law_init (n := n + 11) (ap_len hA)) rfl rfl (by decide) rfl rfl (Nat.le_of_ble_eq_true rfl) ?_
  refine z_hp (hp1 := A ++ [.inr (.inr (6, [.ref (n + 1), .ref (n + 2), .null, .null, .null, .null, .null, .int 0, .int 0, .int 0, .int 0])), .inr (.inl (1, 30, fun _ => none)), .inr (.inl (0, 6, va_up (va_up (va_up (va_up (fun _ => none) 0 (some (n + 3))) 1 (some (n + 5))) 2 (some (n + 7))) 3 (some (n + 9)))), .inr (.inr (4, [.ref (n + 4), .int 10])), .inl (7, cnd0), .inr (.inr (4, [.ref (n + 6), .int 10])), .inl (7, cnd0), .inr (.inr (4, [.ref (n + 8), .int 10])), .inl (7, cnd0), .inr (.inr (4, [.ref (n + 10), .int 10])), .inl (7, cnd0), .inr (.inr (4, [.ref (n + 12), .int 10])), .inl (7, cnd0)]) (List.append_assoc A _ _) ?_
  refine z_aastore (C := "") d_Roo_init_45 4 46 rfl (ap_at hA (k := 2) rfl) (ap_at hA (k := 11) rfl) rfl (Or.inl ⟨rfl, rfl⟩) rfl (by decide) (by decide) ?_
  refine z_hp (hp1 := A ++ [.inr (.inr (6, [.ref (n + 1), .ref (n + 2), .null, .null, .null, .null, .null, .int 0, .int 0, .int 0, .int 0])), .inr (.inl (1, 30, fun _ => none)), .inr (.inl (0, 6, va_up (va_up (va_up (va_up (va_up (fun _ => none) 0 (some (n + 3))) 1 (some (n + 5))) 2 (some (n + 7))) 3 (some (n + 9))) 4 (some (n + 11)))), .inr (.inr (4, [.ref (n + 4), .int 10])), .inl (7, cnd0), .inr (.inr (4, [.ref (n + 6), .int 10])), .inl (7, cnd0), .inr (.inr (4, [.ref (n + 8), .int 10])), .inl (7, cnd0), .inr (.inr (4, [.ref (n + 10), .int 10])), .inl (7, cnd0), .inr (.inr (4, [.ref (n + 12), .int 10])), .inl (7, cnd0)]) (ap_set (k := 2) hA) ?_
  refine z_iinc d_Roo_init_46 1 (by decide) 49 rfl rfl (by decide) rfl ?_
  refine z_L ([some (.ref n), some (.int 5)]) rfl ?_
  refine z_goto d_Roo_init_49 24 (by decide) ?_
  refine z_iload_n d_Roo_init_24 rfl 25 rfl ?_
  refine z_aload_n d_Roo_init_25 rfl 26 rfl ?_
  refine z_get d_Roo_init_26 29 rfl fl_Roo_19_6 (ap_at hA (k := 0) rfl) rfl ?_
  refine z_alenR d_Roo_init_29 30 rfl (ap_at hA (k := 2) rfl) (Or.inl rfl) 6 (by decide) ?_
  refine z_icmp_ge d_Roo_init_30 52 33 (by decide) rfl (fun hzz => absurd hzz (by decide)) (fun _ => ?_)
  refine z_aload_n d_Roo_init_33 rfl 34 rfl ?_
  refine z_get d_Roo_init_34 37 rfl fl_Roo_19_6 (ap_at hA (k := 0) rfl) rfl ?_
  refine z_iload_n d_Roo_init_37 rfl 38 rfl ?_
  refine z_new (kc1 := 6) (ks1 := 43) d_Roo_init_38 41 (n + 13) _ rfl nw_Roo_17 (fun _ _ => rfl) rfl rfl (ap_len hA) rfl ?_
  refine z_dup d_Roo_init_41 rfl 42 rfl ?_
  refine z_invI (kc1 := 5) (ks1 := 36) d_Roo_init_42 45 rfl hm_Law_init lk_Roo_23 im_Law_init rfl rfl (r_Law_init (n := n + 13) (ap_len hA)) rfl rfl (by decide) rfl rfl (Nat.le_of_ble_eq_true rfl) ?_
  refine z_hp (hp1 := A ++ [.inr (.inr (6, [.ref (n + 1), .ref (n + 2), .null, .null, .null, .null, .null, .int 0, .int 0, .int 0, .int 0])), .inr (.inl (1, 30, fun _ => none)), .inr (.inl (0, 6, va_up (va_up (va_up (va_up (va_up (fun _ => none) 0 (some (n + 3))) 1 (some (n + 5))) 2 (some (n + 7))) 3 (some (n + 9))) 4 (some (n + 11)))), .inr (.inr (4, [.ref (n + 4), .int 10])), .inl (7, cnd0), .inr (.inr (4, [.ref (n + 6), .int 10])), .inl (7, cnd0), .inr (.inr (4, [.ref (n + 8), .int 10])), .inl (7, cnd0), .inr (.inr (4, [.ref (n + 10), .int 10])), .inl (7, cnd0), .inr (.inr (4, [.ref (n + 12), .int 10])), .inl (7, cnd0), .inr (.inr (4, [.ref (n + 14), .int 10])), .inl (7, cnd0)]) (List.append_assoc A _ _) ?_
  refine z_aastore (C := "") d_Roo_init_45 5 46 rfl (ap_at hA (k := 2) rfl) (ap_at hA (k := 13) rfl) rfl (Or.inl ⟨rfl, rfl⟩) rfl (by decide) (by decide) ?_
  refine z_hp (hp1 := A ++ [.inr (.inr (6, [.ref (n + 1), .ref (n + 2), .null, .null, .null, .null, .null, .int 0, .int 0, .int 0, .int 0])), .inr (.inl (1, 30, fun _ => none)), .inr (.inl (0, 6, va_up (va_up (va_up (va_up (va_up (va_up (fun _ => none) 0 (some (n + 3))) 1 (some (n + 5))) 2 (some (n + 7))) 3 (some (n + 9))) 4 (some (n + 11))) 5 (some (n + 13)))), .inr (.inr (4, [.ref (n + 4), .int 10])), .inl (7, cnd0), .inr (.inr (4, [.ref (n + 6), .int 10])), .inl (7, cnd0), .inr (.inr (4, [.ref (n + 8), .int 10])), .inl (7, cnd0), .inr (.inr (4, [.ref (n + 10), .int 10])), .inl (7, cnd0), .inr (.inr (4, [.ref (n + 12), .int 10])), .inl (7, cnd0), .inr (.inr (4, [.ref (n + 14), .int 10])), .inl (7, cnd0)]) (ap_set (k := 2) hA) ?_
  refine z_iinc d_Roo_init_46 1 (by decide) 49 rfl rfl (by decide) rfl ?_
  refine z_L ([some (.ref n), some (.int 6)]) rfl ?_
  refine z_goto d_Roo_init_49 24 (by decide) ?_
  refine z_iload_n d_Roo_init_24 rfl 25 rfl ?_
  refine z_aload_n d_Roo_init_25 rfl 26 rfl ?_
  refine z_get d_Roo_init_26 29 rfl fl_Roo_19_6 (ap_at hA (k := 0) rfl) rfl ?_
  refine z_alenR d_Roo_init_29 30 rfl (ap_at hA (k := 2) rfl) (Or.inl rfl) 6 (by decide) ?_
  refine z_icmp_ge d_Roo_init_30 52 33 (by decide) rfl (fun _ => ?_) (fun hzz => absurd (by decide) hzz)
  refine z_aload_n d_Roo_init_52 rfl 53 rfl ?_
  refine z_bipush d_Roo_init_53 10 (by decide) 55 rfl ?_
  refine z_anewarray (kc1 := 4) (ks1 := 26) d_Roo_init_55 10 58 (n + 15) (A ++ [.inr (.inr (6, [.ref (n + 1), .ref (n + 2), .null, .null, .null, .null, .null, .int 0, .int 0, .int 0, .int 0])), .inr (.inl (1, 30, fun _ => none)), .inr (.inl (0, 6, va_up (va_up (va_up (va_up (va_up (va_up (fun _ => none) 0 (some (n + 3))) 1 (some (n + 5))) 2 (some (n + 7))) 3 (some (n + 9))) 4 (some (n + 11))) 5 (some (n + 13)))), .inr (.inr (4, [.ref (n + 4), .int 10])), .inl (7, cnd0), .inr (.inr (4, [.ref (n + 6), .int 10])), .inl (7, cnd0), .inr (.inr (4, [.ref (n + 8), .int 10])), .inl (7, cnd0), .inr (.inr (4, [.ref (n + 10), .int 10])), .inl (7, cnd0), .inr (.inr (4, [.ref (n + 12), .int 10])), .inl (7, cnd0), .inr (.inr (4, [.ref (n + 14), .int 10])), .inl (7, cnd0), .inr (.inl (1, 10, fun _ => none))]) rfl (Or.inr rfl) cl_Roo_9 rfl (by decide) rfl rfl (ap_len hA) (List.append_assoc A _ _) ?_
  refine z_put d_Roo_init_58 61 rfl fp_Roo_24_6 (Or.inr rfl) (ap_at hA (k := 0) rfl) (fun _ _ => rfl) (fun _ _ => rfl) (by simp) ?_
  refine z_hp (hp1 := A ++ [.inr (.inr (6, [.ref (n + 1), .ref (n + 2), .ref (n + 15), .null, .null, .null, .null, .int 0, .int 0, .int 0, .int 0])), .inr (.inl (1, 30, fun _ => none)), .inr (.inl (0, 6, va_up (va_up (va_up (va_up (va_up (va_up (fun _ => none) 0 (some (n + 3))) 1 (some (n + 5))) 2 (some (n + 7))) 3 (some (n + 9))) 4 (some (n + 11))) 5 (some (n + 13)))), .inr (.inr (4, [.ref (n + 4), .int 10])), .inl (7, cnd0), .inr (.inr (4, [.ref (n + 6), .int 10])), .inl (7, cnd0), .inr (.inr (4, [.ref (n + 8), .int 10])), .inl (7, cnd0), .inr (.inr (4, [.ref (n + 10), .int 10])), .inl (7, cnd0), .inr (.inr (4, [.ref (n + 12), .int 10])), .inl (7, cnd0), .inr (.inr (4, [.ref (n + 14), .int 10])), .inl (7, cnd0), .inr (.inl (1, 10, fun _ => none))]) (ap_set (k := 0) hA) ?_
  refine z_aload_n d_Roo_init_61 rfl 62 rfl ?_
  refine z_bipush d_Roo_init_62 10 (by decide) 64 rfl ?_
  refine z_anewarray (kc1 := 3) (ks1 := 16) d_Roo_init_64 10 67 (n + 16) (A ++ [.inr (.inr (6, [.ref (n + 1), .ref (n + 2), .ref (n + 15), .null, .null, .null, .null, .int 0, .int 0, .int 0, .int 0])), .inr (.inl (1, 30, fun _ => none)), .inr (.inl (0, 6, va_up (va_up (va_up (va_up (va_up (va_up (fun _ => none) 0 (some (n + 3))) 1 (some (n + 5))) 2 (some (n + 7))) 3 (some (n + 9))) 4 (some (n + 11))) 5 (some (n + 13)))), .inr (.inr (4, [.ref (n + 4), .int 10])), .inl (7, cnd0), .inr (.inr (4, [.ref (n + 6), .int 10])), .inl (7, cnd0), .inr (.inr (4, [.ref (n + 8), .int 10])), .inl (7, cnd0), .inr (.inr (4, [.ref (n + 10), .int 10])), .inl (7, cnd0), .inr (.inr (4, [.ref (n + 12), .int 10])), .inl (7, cnd0), .inr (.inr (4, [.ref (n + 14), .int 10])), .inl (7, cnd0), .inr (.inl (1, 10, fun _ => none)), .inr (.inl (1, 10, fun _ => none))]) rfl (Or.inr rfl) cl_Roo_9 rfl (by decide) rfl rfl (ap_len hA) (List.append_assoc A _ _) ?_
  refine z_put d_Roo_init_67 70 rfl fp_Roo_27_6 (Or.inr rfl) (ap_at hA (k := 0) rfl) (fun _ _ => rfl) (fun _ _ => rfl) (by simp) ?_
  refine z_hp (hp1 := A ++ [.inr (.inr (6, [.ref (n + 1), .ref (n + 2), .ref (n + 15), .ref (n + 16), .null, .null, .null, .int 0, .int 0, .int 0, .int 0])), .inr (.inl (1, 30, fun _ => none)), .inr (.inl (0, 6, va_up (va_up (va_up (va_up (va_up (va_up (fun _ => none) 0 (some (n + 3))) 1 (some (n + 5))) 2 (some (n + 7))) 3 (some (n + 9))) 4 (some (n + 11))) 5 (some (n + 13)))), .inr (.inr (4, [.ref (n + 4), .int 10])), .inl (7, cnd0), .inr (.inr (4, [.ref (n + 6), .int 10])), .inl (7, cnd0), .inr (.inr (4, [.ref (n + 8), .int 10])), .inl (7, cnd0), .inr (.inr (4, [.ref (n + 10), .int 10])), .inl (7, cnd0), .inr (.inr (4, [.ref (n + 12), .int 10])), .inl (7, cnd0), .inr (.inr (4, [.ref (n + 14), .int 10])), .inl (7, cnd0), .inr (.inl (1, 10, fun _ => none)), .inr (.inl (1, 10, fun _ => none))]) (ap_set (k := 0) hA) ?_
  refine z_aload_n d_Roo_init_70 rfl 71 rfl ?_
  refine z_iconst d_Roo_init_71 2 (by decide) 72 rfl ?_
  refine z_newarray (kc1 := 2) (ks1 := 14) d_Roo_init_72 2 74 (n + 17) (A ++ [.inr (.inr (6, [.ref (n + 1), .ref (n + 2), .ref (n + 15), .ref (n + 16), .null, .null, .null, .int 0, .int 0, .int 0, .int 0])), .inr (.inl (1, 30, fun _ => none)), .inr (.inl (0, 6, va_up (va_up (va_up (va_up (va_up (va_up (fun _ => none) 0 (some (n + 3))) 1 (some (n + 5))) 2 (some (n + 7))) 3 (some (n + 9))) 4 (some (n + 11))) 5 (some (n + 13)))), .inr (.inr (4, [.ref (n + 4), .int 10])), .inl (7, cnd0), .inr (.inr (4, [.ref (n + 6), .int 10])), .inl (7, cnd0), .inr (.inr (4, [.ref (n + 8), .int 10])), .inl (7, cnd0), .inr (.inr (4, [.ref (n + 10), .int 10])), .inl (7, cnd0), .inr (.inr (4, [.ref (n + 12), .int 10])), .inl (7, cnd0), .inr (.inr (4, [.ref (n + 14), .int 10])), .inl (7, cnd0), .inr (.inl (1, 10, fun _ => none)), .inr (.inl (1, 10, fun _ => none)), .inl (2, fun _ => 0)]) rfl zw_int rfl (by decide) rfl rfl (ap_len hA) (List.append_assoc A _ _) ?_
  refine z_put d_Roo_init_74 77 rfl fp_Roo_30_6 (Or.inr rfl) (ap_at hA (k := 0) rfl) (fun _ _ => rfl) (fun _ _ => rfl) (by simp) ?_
  refine z_hp (hp1 := A ++ [.inr (.inr (6, [.ref (n + 1), .ref (n + 2), .ref (n + 15), .ref (n + 16), .ref (n + 17), .null, .null, .int 0, .int 0, .int 0, .int 0])), .inr (.inl (1, 30, fun _ => none)), .inr (.inl (0, 6, va_up (va_up (va_up (va_up (va_up (va_up (fun _ => none) 0 (some (n + 3))) 1 (some (n + 5))) 2 (some (n + 7))) 3 (some (n + 9))) 4 (some (n + 11))) 5 (some (n + 13)))), .inr (.inr (4, [.ref (n + 4), .int 10])), .inl (7, cnd0), .inr (.inr (4, [.ref (n + 6), .int 10])), .inl (7, cnd0), .inr (.inr (4, [.ref (n + 8), .int 10])), .inl (7, cnd0), .inr (.inr (4, [.ref (n + 10), .int 10])), .inl (7, cnd0), .inr (.inr (4, [.ref (n + 12), .int 10])), .inl (7, cnd0), .inr (.inr (4, [.ref (n + 14), .int 10])), .inl (7, cnd0), .inr (.inl (1, 10, fun _ => none)), .inr (.inl (1, 10, fun _ => none)), .inl (2, fun _ => 0)]) (ap_set (k := 0) hA) ?_
  refine z_aload_n d_Roo_init_77 rfl 78 rfl ?_
  refine z_bipush d_Roo_init_78 10 (by decide) 80 rfl ?_
  refine z_newarray (kc1 := 1) (ks1 := 4) d_Roo_init_80 10 82 (n + 18) (A ++ [.inr (.inr (6, [.ref (n + 1), .ref (n + 2), .ref (n + 15), .ref (n + 16), .ref (n + 17), .null, .null, .int 0, .int 0, .int 0, .int 0])), .inr (.inl (1, 30, fun _ => none)), .inr (.inl (0, 6, va_up (va_up (va_up (va_up (va_up (va_up (fun _ => none) 0 (some (n + 3))) 1 (some (n + 5))) 2 (some (n + 7))) 3 (some (n + 9))) 4 (some (n + 11))) 5 (some (n + 13)))), .inr (.inr (4, [.ref (n + 4), .int 10])), .inl (7, cnd0), .inr (.inr (4, [.ref (n + 6), .int 10])), .inl (7, cnd0), .inr (.inr (4, [.ref (n + 8), .int 10])), .inl (7, cnd0), .inr (.inr (4, [.ref (n + 10), .int 10])), .inl (7, cnd0), .inr (.inr (4, [.ref (n + 12), .int 10])), .inl (7, cnd0), .inr (.inr (4, [.ref (n + 14), .int 10])), .inl (7, cnd0), .inr (.inl (1, 10, fun _ => none)), .inr (.inl (1, 10, fun _ => none)), .inl (2, fun _ => 0), .inl (10, fun _ => 0)]) rfl zw_int rfl (by decide) rfl rfl (ap_len hA) (List.append_assoc A _ _) ?_
  refine z_put d_Roo_init_82 85 rfl fp_Roo_34_6 (Or.inr rfl) (ap_at hA (k := 0) rfl) (fun _ _ => rfl) (fun _ _ => rfl) (by simp) ?_
  refine z_hp (hp1 := A ++ [.inr (.inr (6, [.ref (n + 1), .ref (n + 2), .ref (n + 15), .ref (n + 16), .ref (n + 17), .ref (n + 18), .null, .int 0, .int 0, .int 0, .int 0])), .inr (.inl (1, 30, fun _ => none)), .inr (.inl (0, 6, va_up (va_up (va_up (va_up (va_up (va_up (fun _ => none) 0 (some (n + 3))) 1 (some (n + 5))) 2 (some (n + 7))) 3 (some (n + 9))) 4 (some (n + 11))) 5 (some (n + 13)))), .inr (.inr (4, [.ref (n + 4), .int 10])), .inl (7, cnd0), .inr (.inr (4, [.ref (n + 6), .int 10])), .inl (7, cnd0), .inr (.inr (4, [.ref (n + 8), .int 10])), .inl (7, cnd0), .inr (.inr (4, [.ref (n + 10), .int 10])), .inl (7, cnd0), .inr (.inr (4, [.ref (n + 12), .int 10])), .inl (7, cnd0), .inr (.inr (4, [.ref (n + 14), .int 10])), .inl (7, cnd0), .inr (.inl (1, 10, fun _ => none)), .inr (.inl (1, 10, fun _ => none)), .inl (2, fun _ => 0), .inl (10, fun _ => 0)]) (ap_set (k := 0) hA) ?_
  refine z_aload_n d_Roo_init_85 rfl 86 rfl ?_
  refine z_new (kc1 := 0) (ks1 := 0) d_Roo_init_86 89 (n + 19) _ rfl nw_Roo_37 (fun _ _ => rfl) rfl rfl (ap_len hA) rfl ?_
  refine z_dup d_Roo_init_89 rfl 90 rfl ?_
  refine z_invIN (kc1 := 0) (ks1 := 0) d_Roo_init_90 93 rfl hm_Ben_init (by decide) im_Ben_init rfl rfl (r_Ben_init (n := n + 19) (ap_len hA)) rfl rfl (by decide) rfl rfl (Nat.le_of_ble_eq_true rfl) ?_
  refine z_hp (hp1 := A ++ [.inr (.inr (6, [.ref (n + 1), .ref (n + 2), .ref (n + 15), .ref (n + 16), .ref (n + 17), .ref (n + 18), .null, .int 0, .int 0, .int 0, .int 0])), .inr (.inl (1, 30, fun _ => none)), .inr (.inl (0, 6, va_up (va_up (va_up (va_up (va_up (va_up (fun _ => none) 0 (some (n + 3))) 1 (some (n + 5))) 2 (some (n + 7))) 3 (some (n + 9))) 4 (some (n + 11))) 5 (some (n + 13)))), .inr (.inr (4, [.ref (n + 4), .int 10])), .inl (7, cnd0), .inr (.inr (4, [.ref (n + 6), .int 10])), .inl (7, cnd0), .inr (.inr (4, [.ref (n + 8), .int 10])), .inl (7, cnd0), .inr (.inr (4, [.ref (n + 10), .int 10])), .inl (7, cnd0), .inr (.inr (4, [.ref (n + 12), .int 10])), .inl (7, cnd0), .inr (.inr (4, [.ref (n + 14), .int 10])), .inl (7, cnd0), .inr (.inl (1, 10, fun _ => none)), .inr (.inl (1, 10, fun _ => none)), .inl (2, fun _ => 0), .inl (10, fun _ => 0), .inr (.inr (0, [.int 0, .int 0, .int 0, .int 0]))]) (List.append_assoc A _ _) ?_
  refine z_put d_Roo_init_93 96 rfl fp_Roo_40_6 (Or.inr rfl) (ap_at hA (k := 0) rfl) (fun _ _ => rfl) (fun _ _ => rfl) (by simp) ?_
  refine z_hp (hp1 := A ++ [.inr (.inr (6, [.ref (n + 1), .ref (n + 2), .ref (n + 15), .ref (n + 16), .ref (n + 17), .ref (n + 18), .ref (n + 19), .int 0, .int 0, .int 0, .int 0])), .inr (.inl (1, 30, fun _ => none)), .inr (.inl (0, 6, va_up (va_up (va_up (va_up (va_up (va_up (fun _ => none) 0 (some (n + 3))) 1 (some (n + 5))) 2 (some (n + 7))) 3 (some (n + 9))) 4 (some (n + 11))) 5 (some (n + 13)))), .inr (.inr (4, [.ref (n + 4), .int 10])), .inl (7, cnd0), .inr (.inr (4, [.ref (n + 6), .int 10])), .inl (7, cnd0), .inr (.inr (4, [.ref (n + 8), .int 10])), .inl (7, cnd0), .inr (.inr (4, [.ref (n + 10), .int 10])), .inl (7, cnd0), .inr (.inr (4, [.ref (n + 12), .int 10])), .inl (7, cnd0), .inr (.inr (4, [.ref (n + 14), .int 10])), .inl (7, cnd0), .inr (.inl (1, 10, fun _ => none)), .inr (.inl (1, 10, fun _ => none)), .inl (2, fun _ => 0), .inl (10, fun _ => 0), .inr (.inr (0, [.int 0, .int 0, .int 0, .int 0]))]) (ap_set (k := 0) hA) ?_
  exact z_return d_Roo_init_96 rfl (by rw [← lrow_eq])
set_option maxHeartbeats 400000 in
theorem r_Lir_init {A : List zC} {n : Nat} (hA : A.length = n) : Ret 3 44 344 m_Lir_init [.ref n] (A ++ [.inr (.inr (10, [.null, .null, .null, .null, .null, .int 0]))]) none (A ++ [.inr (.inr (10, [.ref (n + 1), .ref (n + 3), .ref (n + 23), .ref (n + 43), .ref (n + 44), .int 0])), .inr (.inr (7, [.ref (n + 2), .int 0, .int 0, .int 0, .int 0, .int 0, .int 0, .int 0, .int 0])), .inl (24, fun _ => 0), .inr (.inr (6, [.ref (n + 4), .ref (n + 5), .ref (n + 18), .ref (n + 19), .ref (n + 20), .ref (n + 21), .ref (n + 22), .int 0, .int 0, .int 0, .int 0])), .inr (.inl (1, 30, fun _ => none)), .inr (.inl (0, 6, lrow (n + 6))), .inr (.inr (4, [.ref (n + 7), .int 10])), .inl (7, cnd0), .inr (.inr (4, [.ref (n + 9), .int 10])), .inl (7, cnd0), .inr (.inr (4, [.ref (n + 11), .int 10])), .inl (7, cnd0), .inr (.inr (4, [.ref (n + 13), .int 10])), .inl (7, cnd0), .inr (.inr (4, [.ref (n + 15), .int 10])), .inl (7, cnd0), .inr (.inr (4, [.ref (n + 17), .int 10])), .inl (7, cnd0), .inr (.inl (1, 10, fun _ => none)), .inr (.inl (1, 10, fun _ => none)), .inl (2, fun _ => 0), .inl (10, fun _ => 0), .inr (.inr (0, [.int 0, .int 0, .int 0, .int 0])), .inr (.inr (6, [.ref (n + 24), .ref (n + 25), .ref (n + 38), .ref (n + 39), .ref (n + 40), .ref (n + 41), .ref (n + 42), .int 0, .int 0, .int 0, .int 0])), .inr (.inl (1, 30, fun _ => none)), .inr (.inl (0, 6, lrow (n + 26))), .inr (.inr (4, [.ref (n + 27), .int 10])), .inl (7, cnd0), .inr (.inr (4, [.ref (n + 29), .int 10])), .inl (7, cnd0), .inr (.inr (4, [.ref (n + 31), .int 10])), .inl (7, cnd0), .inr (.inr (4, [.ref (n + 33), .int 10])), .inl (7, cnd0), .inr (.inr (4, [.ref (n + 35), .int 10])), .inl (7, cnd0), .inr (.inr (4, [.ref (n + 37), .int 10])), .inl (7, cnd0), .inr (.inl (1, 10, fun _ => none)), .inr (.inl (1, 10, fun _ => none)), .inl (2, fun _ => 0), .inl (10, fun _ => 0), .inr (.inr (0, [.int 0, .int 0, .int 0, .int 0])), .inl (7, fun _ => 0), .inl (30, fun _ => 0)]) := by
  refine Ret.of (n := 0) (by decide) (trivial) rfl (fun X => ?_)
  refine z_aload_n d_Lir_init_0 rfl 1 rfl ?_
  refine z_objInit d_Lir_init_1 4 rfl lk_Lir_1 zo_2 zo_3 (by decide) (Nat.le_of_ble_eq_true rfl) ?_
  refine z_aload_n d_Lir_init_4 rfl 5 rfl ?_
  refine z_new (kc1 := 43) (ks1 := 335) d_Lir_init_5 8 (n + 1) _ rfl nw_Lir_7 (fun _ _ => rfl) rfl rfl (ap_len hA) rfl ?_
  refine z_dup d_Lir_init_8 rfl 9 rfl ?_
  refine z_invI (kc1 := 42) (ks1 := 311) d_Lir_init_9 12 rfl hm_Tap_init lk_Lir_9 im_Tap_init rfl rfl (r_Tap_init (n := n + 1) (ap_len hA)) rfl rfl (by decide) rfl rfl (Nat.le_of_ble_eq_true rfl) ?_
  refine z_hp (hp1 := A ++ [.inr (.inr (10, [.null, .null, .null, .null, .null, .int 0])), .inr (.inr (7, [.ref (n + 2), .int 0, .int 0, .int 0, .int 0, .int 0, .int 0, .int 0, .int 0])), .inl (24, fun _ => 0)]) (List.append_assoc A _ _) ?_
  refine z_put d_Lir_init_12 15 rfl fp_Lir_10_10 (Or.inr rfl) (ap_at hA (k := 0) rfl) (fun _ _ => rfl) (fun _ _ => rfl) (by simp) ?_
  refine z_hp (hp1 := A ++ [.inr (.inr (10, [.ref (n + 1), .null, .null, .null, .null, .int 0])), .inr (.inr (7, [.ref (n + 2), .int 0, .int 0, .int 0, .int 0, .int 0, .int 0, .int 0, .int 0])), .inl (24, fun _ => 0)]) (ap_set (k := 0) hA) ?_
  refine z_aload_n d_Lir_init_15 rfl 16 rfl ?_
  refine z_new (kc1 := 41) (ks1 := 300) d_Lir_init_16 19 (n + 3) _ rfl nw_Lir_16 (fun _ _ => rfl) rfl rfl (ap_len hA) rfl ?_
  refine z_dup d_Lir_init_19 rfl 20 rfl ?_
  refine z_invI (kc1 := 22) (ks1 := 174) d_Lir_init_20 23 rfl hm_Roo_init lk_Lir_18 im_Roo_init rfl rfl (r_Roo_init (n := n + 3) (ap_len hA)) rfl rfl (by decide) rfl rfl (Nat.le_of_ble_eq_true rfl) ?_
  refine z_hp (hp1 := A ++ [.inr (.inr (10, [.ref (n + 1), .null, .null, .null, .null, .int 0])), .inr (.inr (7, [.ref (n + 2), .int 0, .int 0, .int 0, .int 0, .int 0, .int 0, .int 0, .int 0])), .inl (24, fun _ => 0), .inr (.inr (6, [.ref (n + 4), .ref (n + 5), .ref (n + 18), .ref (n + 19), .ref (n + 20), .ref (n + 21), .ref (n + 22), .int 0, .int 0, .int 0, .int 0])), .inr (.inl (1, 30, fun _ => none)), .inr (.inl (0, 6, lrow (n + 6))), .inr (.inr (4, [.ref (n + 7), .int 10])), .inl (7, cnd0), .inr (.inr (4, [.ref (n + 9), .int 10])), .inl (7, cnd0), .inr (.inr (4, [.ref (n + 11), .int 10])), .inl (7, cnd0), .inr (.inr (4, [.ref (n + 13), .int 10])), .inl (7, cnd0), .inr (.inr (4, [.ref (n + 15), .int 10])), .inl (7, cnd0), .inr (.inr (4, [.ref (n + 17), .int 10])), .inl (7, cnd0), .inr (.inl (1, 10, fun _ => none)), .inr (.inl (1, 10, fun _ => none)), .inl (2, fun _ => 0), .inl (10, fun _ => 0), .inr (.inr (0, [.int 0, .int 0, .int 0, .int 0]))]) (List.append_assoc A _ _) ?_
  refine z_put d_Lir_init_23 26 rfl fp_Lir_19_10 (Or.inr rfl) (ap_at hA (k := 0) rfl) (fun _ _ => rfl) (fun _ _ => rfl) (by simp) ?_
  refine z_hp (hp1 := A ++ [.inr (.inr (10, [.ref (n + 1), .ref (n + 3), .null, .null, .null, .int 0])), .inr (.inr (7, [.ref (n + 2), .int 0, .int 0, .int 0, .int 0, .int 0, .int 0, .int 0, .int 0])), .inl (24, fun _ => 0), .inr (.inr (6, [.ref (n + 4), .ref (n + 5), .ref (n + 18), .ref (n + 19), .ref (n + 20), .ref (n + 21), .ref (n + 22), .int 0, .int 0, .int 0, .int 0])), .inr (.inl (1, 30, fun _ => none)), .inr (.inl (0, 6, lrow (n + 6))), .inr (.inr (4, [.ref (n + 7), .int 10])), .inl (7, cnd0), .inr (.inr (4, [.ref (n + 9), .int 10])), .inl (7, cnd0), .inr (.inr (4, [.ref (n + 11), .int 10])), .inl (7, cnd0), .inr (.inr (4, [.ref (n + 13), .int 10])), .inl (7, cnd0), .inr (.inr (4, [.ref (n + 15), .int 10])), .inl (7, cnd0), .inr (.inr (4, [.ref (n + 17), .int 10])), .inl (7, cnd0), .inr (.inl (1, 10, fun _ => none)), .inr (.inl (1, 10, fun _ => none)), .inl (2, fun _ => 0), .inl (10, fun _ => 0), .inr (.inr (0, [.int 0, .int 0, .int 0, .int 0]))]) (ap_set (k := 0) hA) ?_
  refine z_aload_n d_Lir_init_26 rfl 27 rfl ?_
  refine z_new (kc1 := 21) (ks1 := 163) d_Lir_init_27 30 (n + 23) _ rfl nw_Lir_16 (fun _ _ => rfl) rfl rfl (ap_len hA) rfl ?_
  refine z_dup d_Lir_init_30 rfl 31 rfl ?_
  refine z_invI (kc1 := 2) (ks1 := 37) d_Lir_init_31 34 rfl hm_Roo_init lk_Lir_18 im_Roo_init rfl rfl (r_Roo_init (n := n + 23) (ap_len hA)) rfl rfl (by decide) rfl rfl (Nat.le_of_ble_eq_true rfl) ?_
  refine z_hp (hp1 := A ++ [.inr (.inr (10, [.ref (n + 1), .ref (n + 3), .null, .null, .null, .int 0])), .inr (.inr (7, [.ref (n + 2), .int 0, .int 0, .int 0, .int 0, .int 0, .int 0, .int 0, .int 0])), .inl (24, fun _ => 0), .inr (.inr (6, [.ref (n + 4), .ref (n + 5), .ref (n + 18), .ref (n + 19), .ref (n + 20), .ref (n + 21), .ref (n + 22), .int 0, .int 0, .int 0, .int 0])), .inr (.inl (1, 30, fun _ => none)), .inr (.inl (0, 6, lrow (n + 6))), .inr (.inr (4, [.ref (n + 7), .int 10])), .inl (7, cnd0), .inr (.inr (4, [.ref (n + 9), .int 10])), .inl (7, cnd0), .inr (.inr (4, [.ref (n + 11), .int 10])), .inl (7, cnd0), .inr (.inr (4, [.ref (n + 13), .int 10])), .inl (7, cnd0), .inr (.inr (4, [.ref (n + 15), .int 10])), .inl (7, cnd0), .inr (.inr (4, [.ref (n + 17), .int 10])), .inl (7, cnd0), .inr (.inl (1, 10, fun _ => none)), .inr (.inl (1, 10, fun _ => none)), .inl (2, fun _ => 0), .inl (10, fun _ => 0), .inr (.inr (0, [.int 0, .int 0, .int 0, .int 0])), .inr (.inr (6, [.ref (n + 24), .ref (n + 25), .ref (n + 38), .ref (n + 39), .ref (n + 40), .ref (n + 41), .ref (n + 42), .int 0, .int 0, .int 0, .int 0])), .inr (.inl (1, 30, fun _ => none)), .inr (.inl (0, 6, lrow (n + 26))), .inr (.inr (4, [.ref (n + 27), .int 10])), .inl (7, cnd0), .inr (.inr (4, [.ref (n + 29), .int 10])), .inl (7, cnd0), .inr (.inr (4, [.ref (n + 31), .int 10])), .inl (7, cnd0), .inr (.inr (4, [.ref (n + 33), .int 10])), .inl (7, cnd0), .inr (.inr (4, [.ref (n + 35), .int 10])), .inl (7, cnd0), .inr (.inr (4, [.ref (n + 37), .int 10])), .inl (7, cnd0), .inr (.inl (1, 10, fun _ => none)), .inr (.inl (1, 10, fun _ => none)), .inl (2, fun _ => 0), .inl (10, fun _ => 0), .inr (.inr (0, [.int 0, .int 0, .int 0, .int 0]))]) (List.append_assoc A _ _) ?_
  refine z_put d_Lir_init_34 37 rfl fp_Lir_23_10 (Or.inr rfl) (ap_at hA (k := 0) rfl) (fun _ _ => rfl) (fun _ _ => rfl) (by simp) ?_
  refine z_hp (hp1 := A ++ [.inr (.inr (10, [.ref (n + 1), .ref (n + 3), .ref (n + 23), .null, .null, .int 0])), .inr (.inr (7, [.ref (n + 2), .int 0, .int 0, .int 0, .int 0, .int 0, .int 0, .int 0, .int 0])), .inl (24, fun _ => 0), .inr (.inr (6, [.ref (n + 4), .ref (n + 5), .ref (n + 18), .ref (n + 19), .ref (n + 20), .ref (n + 21), .ref (n + 22), .int 0, .int 0, .int 0, .int 0])), .inr (.inl (1, 30, fun _ => none)), .inr (.inl (0, 6, lrow (n + 6))), .inr (.inr (4, [.ref (n + 7), .int 10])), .inl (7, cnd0), .inr (.inr (4, [.ref (n + 9), .int 10])), .inl (7, cnd0), .inr (.inr (4, [.ref (n + 11), .int 10])), .inl (7, cnd0), .inr (.inr (4, [.ref (n + 13), .int 10])), .inl (7, cnd0), .inr (.inr (4, [.ref (n + 15), .int 10])), .inl (7, cnd0), .inr (.inr (4, [.ref (n + 17), .int 10])), .inl (7, cnd0), .inr (.inl (1, 10, fun _ => none)), .inr (.inl (1, 10, fun _ => none)), .inl (2, fun _ => 0), .inl (10, fun _ => 0), .inr (.inr (0, [.int 0, .int 0, .int 0, .int 0])), .inr (.inr (6, [.ref (n + 24), .ref (n + 25), .ref (n + 38), .ref (n + 39), .ref (n + 40), .ref (n + 41), .ref (n + 42), .int 0, .int 0, .int 0, .int 0])), .inr (.inl (1, 30, fun _ => none)), .inr (.inl (0, 6, lrow (n + 26))), .inr (.inr (4, [.ref (n + 27), .int 10])), .inl (7, cnd0), .inr (.inr (4, [.ref (n + 29), .int 10])), .inl (7, cnd0), .inr (.inr (4, [.ref (n + 31), .int 10])), .inl (7, cnd0), .inr (.inr (4, [.ref (n + 33), .int 10])), .inl (7, cnd0), .inr (.inr (4, [.ref (n + 35), .int 10])), .inl (7, cnd0), .inr (.inr (4, [.ref (n + 37), .int 10])), .inl (7, cnd0), .inr (.inl (1, 10, fun _ => none)), .inr (.inl (1, 10, fun _ => none)), .inl (2, fun _ => 0), .inl (10, fun _ => 0), .inr (.inr (0, [.int 0, .int 0, .int 0, .int 0]))]) (ap_set (k := 0) hA) ?_
  refine z_aload_n d_Lir_init_37 rfl 38 rfl ?_
  refine z_bipush d_Lir_init_38 7 (by decide) 40 rfl ?_
  refine z_newarray (kc1 := 1) (ks1 := 30) d_Lir_init_40 7 42 (n + 43) (A ++ [.inr (.inr (10, [.ref (n + 1), .ref (n + 3), .ref (n + 23), .null, .null, .int 0])), .inr (.inr (7, [.ref (n + 2), .int 0, .int 0, .int 0, .int 0, .int 0, .int 0, .int 0, .int 0])), .inl (24, fun _ => 0), .inr (.inr (6, [.ref (n + 4), .ref (n + 5), .ref (n + 18), .ref (n + 19), .ref (n + 20), .ref (n + 21), .ref (n + 22), .int 0, .int 0, .int 0, .int 0])), .inr (.inl (1, 30, fun _ => none)), .inr (.inl (0, 6, lrow (n + 6))), .inr (.inr (4, [.ref (n + 7), .int 10])), .inl (7, cnd0), .inr (.inr (4, [.ref (n + 9), .int 10])), .inl (7, cnd0), .inr (.inr (4, [.ref (n + 11), .int 10])), .inl (7, cnd0), .inr (.inr (4, [.ref (n + 13), .int 10])), .inl (7, cnd0), .inr (.inr (4, [.ref (n + 15), .int 10])), .inl (7, cnd0), .inr (.inr (4, [.ref (n + 17), .int 10])), .inl (7, cnd0), .inr (.inl (1, 10, fun _ => none)), .inr (.inl (1, 10, fun _ => none)), .inl (2, fun _ => 0), .inl (10, fun _ => 0), .inr (.inr (0, [.int 0, .int 0, .int 0, .int 0])), .inr (.inr (6, [.ref (n + 24), .ref (n + 25), .ref (n + 38), .ref (n + 39), .ref (n + 40), .ref (n + 41), .ref (n + 42), .int 0, .int 0, .int 0, .int 0])), .inr (.inl (1, 30, fun _ => none)), .inr (.inl (0, 6, lrow (n + 26))), .inr (.inr (4, [.ref (n + 27), .int 10])), .inl (7, cnd0), .inr (.inr (4, [.ref (n + 29), .int 10])), .inl (7, cnd0), .inr (.inr (4, [.ref (n + 31), .int 10])), .inl (7, cnd0), .inr (.inr (4, [.ref (n + 33), .int 10])), .inl (7, cnd0), .inr (.inr (4, [.ref (n + 35), .int 10])), .inl (7, cnd0), .inr (.inr (4, [.ref (n + 37), .int 10])), .inl (7, cnd0), .inr (.inl (1, 10, fun _ => none)), .inr (.inl (1, 10, fun _ => none)), .inl (2, fun _ => 0), .inl (10, fun _ => 0), .inr (.inr (0, [.int 0, .int 0, .int 0, .int 0])), .inl (7, fun _ => 0)]) rfl zw_int rfl (by decide) rfl rfl (ap_len hA) (List.append_assoc A _ _) ?_
  refine z_put d_Lir_init_42 45 rfl fp_Lir_26_10 (Or.inr rfl) (ap_at hA (k := 0) rfl) (fun _ _ => rfl) (fun _ _ => rfl) (by simp) ?_
  refine z_hp (hp1 := A ++ [.inr (.inr (10, [.ref (n + 1), .ref (n + 3), .ref (n + 23), .ref (n + 43), .null, .int 0])), .inr (.inr (7, [.ref (n + 2), .int 0, .int 0, .int 0, .int 0, .int 0, .int 0, .int 0, .int 0])), .inl (24, fun _ => 0), .inr (.inr (6, [.ref (n + 4), .ref (n + 5), .ref (n + 18), .ref (n + 19), .ref (n + 20), .ref (n + 21), .ref (n + 22), .int 0, .int 0, .int 0, .int 0])), .inr (.inl (1, 30, fun _ => none)), .inr (.inl (0, 6, lrow (n + 6))), .inr (.inr (4, [.ref (n + 7), .int 10])), .inl (7, cnd0), .inr (.inr (4, [.ref (n + 9), .int 10])), .inl (7, cnd0), .inr (.inr (4, [.ref (n + 11), .int 10])), .inl (7, cnd0), .inr (.inr (4, [.ref (n + 13), .int 10])), .inl (7, cnd0), .inr (.inr (4, [.ref (n + 15), .int 10])), .inl (7, cnd0), .inr (.inr (4, [.ref (n + 17), .int 10])), .inl (7, cnd0), .inr (.inl (1, 10, fun _ => none)), .inr (.inl (1, 10, fun _ => none)), .inl (2, fun _ => 0), .inl (10, fun _ => 0), .inr (.inr (0, [.int 0, .int 0, .int 0, .int 0])), .inr (.inr (6, [.ref (n + 24), .ref (n + 25), .ref (n + 38), .ref (n + 39), .ref (n + 40), .ref (n + 41), .ref (n + 42), .int 0, .int 0, .int 0, .int 0])), .inr (.inl (1, 30, fun _ => none)), .inr (.inl (0, 6, lrow (n + 26))), .inr (.inr (4, [.ref (n + 27), .int 10])), .inl (7, cnd0), .inr (.inr (4, [.ref (n + 29), .int 10])), .inl (7, cnd0), .inr (.inr (4, [.ref (n + 31), .int 10])), .inl (7, cnd0), .inr (.inr (4, [.ref (n + 33), .int 10])), .inl (7, cnd0), .inr (.inr (4, [.ref (n + 35), .int 10])), .inl (7, cnd0), .inr (.inr (4, [.ref (n + 37), .int 10])), .inl (7, cnd0), .inr (.inl (1, 10, fun _ => none)), .inr (.inl (1, 10, fun _ => none)), .inl (2, fun _ => 0), .inl (10, fun _ => 0), .inr (.inr (0, [.int 0, .int 0, .int 0, .int 0])), .inl (7, fun _ => 0)]) (ap_set (k := 0) hA) ?_
  refine z_aload_n d_Lir_init_45 rfl 46 rfl ?_
  refine z_bipush d_Lir_init_46 30 (by decide) 48 rfl ?_
  refine z_newarray (kc1 := 0) (ks1 := 0) d_Lir_init_48 30 50 (n + 44) (A ++ [.inr (.inr (10, [.ref (n + 1), .ref (n + 3), .ref (n + 23), .ref (n + 43), .null, .int 0])), .inr (.inr (7, [.ref (n + 2), .int 0, .int 0, .int 0, .int 0, .int 0, .int 0, .int 0, .int 0])), .inl (24, fun _ => 0), .inr (.inr (6, [.ref (n + 4), .ref (n + 5), .ref (n + 18), .ref (n + 19), .ref (n + 20), .ref (n + 21), .ref (n + 22), .int 0, .int 0, .int 0, .int 0])), .inr (.inl (1, 30, fun _ => none)), .inr (.inl (0, 6, lrow (n + 6))), .inr (.inr (4, [.ref (n + 7), .int 10])), .inl (7, cnd0), .inr (.inr (4, [.ref (n + 9), .int 10])), .inl (7, cnd0), .inr (.inr (4, [.ref (n + 11), .int 10])), .inl (7, cnd0), .inr (.inr (4, [.ref (n + 13), .int 10])), .inl (7, cnd0), .inr (.inr (4, [.ref (n + 15), .int 10])), .inl (7, cnd0), .inr (.inr (4, [.ref (n + 17), .int 10])), .inl (7, cnd0), .inr (.inl (1, 10, fun _ => none)), .inr (.inl (1, 10, fun _ => none)), .inl (2, fun _ => 0), .inl (10, fun _ => 0), .inr (.inr (0, [.int 0, .int 0, .int 0, .int 0])), .inr (.inr (6, [.ref (n + 24), .ref (n + 25), .ref (n + 38), .ref (n + 39), .ref (n + 40), .ref (n + 41), .ref (n + 42), .int 0, .int 0, .int 0, .int 0])), .inr (.inl (1, 30, fun _ => none)), .inr (.inl (0, 6, lrow (n + 26))), .inr (.inr (4, [.ref (n + 27), .int 10])), .inl (7, cnd0), .inr (.inr (4, [.ref (n + 29), .int 10])), .inl (7, cnd0), .inr (.inr (4, [.ref (n + 31), .int 10])), .inl (7, cnd0), .inr (.inr (4, [.ref (n + 33), .int 10])), .inl (7, cnd0), .inr (.inr (4, [.ref (n + 35), .int 10])), .inl (7, cnd0), .inr (.inr (4, [.ref (n + 37), .int 10])), .inl (7, cnd0), .inr (.inl (1, 10, fun _ => none)), .inr (.inl (1, 10, fun _ => none)), .inl (2, fun _ => 0), .inl (10, fun _ => 0), .inr (.inr (0, [.int 0, .int 0, .int 0, .int 0])), .inl (7, fun _ => 0), .inl (30, fun _ => 0)]) rfl zw_int rfl (by decide) rfl rfl (ap_len hA) (List.append_assoc A _ _) ?_
  refine z_put d_Lir_init_50 53 rfl fp_Lir_30_10 (Or.inr rfl) (ap_at hA (k := 0) rfl) (fun _ _ => rfl) (fun _ _ => rfl) (by simp) ?_
  refine z_hp (hp1 := A ++ [.inr (.inr (10, [.ref (n + 1), .ref (n + 3), .ref (n + 23), .ref (n + 43), .ref (n + 44), .int 0])), .inr (.inr (7, [.ref (n + 2), .int 0, .int 0, .int 0, .int 0, .int 0, .int 0, .int 0, .int 0])), .inl (24, fun _ => 0), .inr (.inr (6, [.ref (n + 4), .ref (n + 5), .ref (n + 18), .ref (n + 19), .ref (n + 20), .ref (n + 21), .ref (n + 22), .int 0, .int 0, .int 0, .int 0])), .inr (.inl (1, 30, fun _ => none)), .inr (.inl (0, 6, lrow (n + 6))), .inr (.inr (4, [.ref (n + 7), .int 10])), .inl (7, cnd0), .inr (.inr (4, [.ref (n + 9), .int 10])), .inl (7, cnd0), .inr (.inr (4, [.ref (n + 11), .int 10])), .inl (7, cnd0), .inr (.inr (4, [.ref (n + 13), .int 10])), .inl (7, cnd0), .inr (.inr (4, [.ref (n + 15), .int 10])), .inl (7, cnd0), .inr (.inr (4, [.ref (n + 17), .int 10])), .inl (7, cnd0), .inr (.inl (1, 10, fun _ => none)), .inr (.inl (1, 10, fun _ => none)), .inl (2, fun _ => 0), .inl (10, fun _ => 0), .inr (.inr (0, [.int 0, .int 0, .int 0, .int 0])), .inr (.inr (6, [.ref (n + 24), .ref (n + 25), .ref (n + 38), .ref (n + 39), .ref (n + 40), .ref (n + 41), .ref (n + 42), .int 0, .int 0, .int 0, .int 0])), .inr (.inl (1, 30, fun _ => none)), .inr (.inl (0, 6, lrow (n + 26))), .inr (.inr (4, [.ref (n + 27), .int 10])), .inl (7, cnd0), .inr (.inr (4, [.ref (n + 29), .int 10])), .inl (7, cnd0), .inr (.inr (4, [.ref (n + 31), .int 10])), .inl (7, cnd0), .inr (.inr (4, [.ref (n + 33), .int 10])), .inl (7, cnd0), .inr (.inr (4, [.ref (n + 35), .int 10])), .inl (7, cnd0), .inr (.inr (4, [.ref (n + 37), .int 10])), .inl (7, cnd0), .inr (.inl (1, 10, fun _ => none)), .inr (.inl (1, 10, fun _ => none)), .inl (2, fun _ => 0), .inl (10, fun _ => 0), .inr (.inr (0, [.int 0, .int 0, .int 0, .int 0])), .inl (7, fun _ => 0), .inl (30, fun _ => 0)]) (ap_set (k := 0) hA) ?_
  refine z_aload_n d_Lir_init_53 rfl 54 rfl ?_
  refine z_iconst d_Lir_init_54 0 (by decide) 55 rfl ?_
  refine z_put d_Lir_init_55 58 rfl fp_Lir_33_10 (Or.inr rfl) (ap_at hA (k := 0) rfl) (fun _ _ => rfl) (fun _ _ => rfl) (by simp) ?_
  refine z_hp (hp1 := A ++ [.inr (.inr (10, [.ref (n + 1), .ref (n + 3), .ref (n + 23), .ref (n + 43), .ref (n + 44), .int 0])), .inr (.inr (7, [.ref (n + 2), .int 0, .int 0, .int 0, .int 0, .int 0, .int 0, .int 0, .int 0])), .inl (24, fun _ => 0), .inr (.inr (6, [.ref (n + 4), .ref (n + 5), .ref (n + 18), .ref (n + 19), .ref (n + 20), .ref (n + 21), .ref (n + 22), .int 0, .int 0, .int 0, .int 0])), .inr (.inl (1, 30, fun _ => none)), .inr (.inl (0, 6, lrow (n + 6))), .inr (.inr (4, [.ref (n + 7), .int 10])), .inl (7, cnd0), .inr (.inr (4, [.ref (n + 9), .int 10])), .inl (7, cnd0), .inr (.inr (4, [.ref (n + 11), .int 10])), .inl (7, cnd0), .inr (.inr (4, [.ref (n + 13), .int 10])), .inl (7, cnd0), .inr (.inr (4, [.ref (n + 15), .int 10])), .inl (7, cnd0), .inr (.inr (4, [.ref (n + 17), .int 10])), .inl (7, cnd0), .inr (.inl (1, 10, fun _ => none)), .inr (.inl (1, 10, fun _ => none)), .inl (2, fun _ => 0), .inl (10, fun _ => 0), .inr (.inr (0, [.int 0, .int 0, .int 0, .int 0])), .inr (.inr (6, [.ref (n + 24), .ref (n + 25), .ref (n + 38), .ref (n + 39), .ref (n + 40), .ref (n + 41), .ref (n + 42), .int 0, .int 0, .int 0, .int 0])), .inr (.inl (1, 30, fun _ => none)), .inr (.inl (0, 6, lrow (n + 26))), .inr (.inr (4, [.ref (n + 27), .int 10])), .inl (7, cnd0), .inr (.inr (4, [.ref (n + 29), .int 10])), .inl (7, cnd0), .inr (.inr (4, [.ref (n + 31), .int 10])), .inl (7, cnd0), .inr (.inr (4, [.ref (n + 33), .int 10])), .inl (7, cnd0), .inr (.inr (4, [.ref (n + 35), .int 10])), .inl (7, cnd0), .inr (.inr (4, [.ref (n + 37), .int 10])), .inl (7, cnd0), .inr (.inl (1, 10, fun _ => none)), .inr (.inl (1, 10, fun _ => none)), .inl (2, fun _ => 0), .inl (10, fun _ => 0), .inr (.inr (0, [.int 0, .int 0, .int 0, .int 0])), .inl (7, fun _ => 0), .inl (30, fun _ => 0)]) (ap_set (k := 0) hA) ?_
  exact z_return d_Lir_init_58 rfl (rfl)
set_option maxHeartbeats 400000 in
theorem r_Mod_init {A : List zC} {n : Nat} (hA : A.length = n) : Ret 1 5 573 m_Mod_init [.ref n] (A ++ [.inr (.inr (11, [.null, .null, .null, .int 0, .null, .null, .int 0, .int 0]))]) none (A ++ [.inr (.inr (11, [.ref (n + 1), .ref (n + 2), .ref (n + 3), .int 0, .ref (n + 4), .ref (n + 5), .int 0, .int 0])), .inl (7, fun _ => 0), .inl (268, sI 6), .inl (268, fun _ => 0), .inl (24, fun _ => 0), .inl (6, fun _ => 0)]) := by
  refine Ret.of (n := 1) (by decide) (trivial) rfl (fun X => ?_)
  refine z_aload_n d_Mod_init_0 rfl 1 rfl ?_
  refine z_objInit d_Mod_init_1 4 rfl lk_Mod_1 zo_2 zo_3 (by decide) (Nat.le_of_ble_eq_true rfl) ?_
  refine z_aload_n d_Mod_init_4 rfl 5 rfl ?_
  refine z_bipush d_Mod_init_5 7 (by decide) 7 rfl ?_
  refine z_newarray (kc1 := 4) (ks1 := 566) d_Mod_init_7 7 9 (n + 1) (A ++ [.inr (.inr (11, [.null, .null, .null, .int 0, .null, .null, .int 0, .int 0])), .inl (7, fun _ => 0)]) rfl zw_int rfl (by decide) rfl rfl (ap_len hA) (List.append_assoc A _ _) ?_
  refine z_put d_Mod_init_9 12 rfl fp_Mod_7_11 (Or.inr rfl) (ap_at hA (k := 0) rfl) (fun _ _ => rfl) (fun _ _ => rfl) (by simp) ?_
  refine z_hp (hp1 := A ++ [.inr (.inr (11, [.ref (n + 1), .null, .null, .int 0, .null, .null, .int 0, .int 0])), .inl (7, fun _ => 0)]) (ap_set (k := 0) hA) ?_
  refine z_aload_n d_Mod_init_12 rfl 13 rfl ?_
  refine z_sipush d_Mod_init_13 268 (by decide) 16 rfl ?_
  refine z_newarray (kc1 := 3) (ks1 := 298) d_Mod_init_16 268 18 (n + 2) (A ++ [.inr (.inr (11, [.ref (n + 1), .null, .null, .int 0, .null, .null, .int 0, .int 0])), .inl (7, fun _ => 0), .inl (268, fun _ => 0)]) rfl zw_int rfl (by decide) rfl rfl (ap_len hA) (List.append_assoc A _ _) ?_
  refine z_put d_Mod_init_18 21 rfl fp_Mod_13_11 (Or.inr rfl) (ap_at hA (k := 0) rfl) (fun _ _ => rfl) (fun _ _ => rfl) (by simp) ?_
  refine z_hp (hp1 := A ++ [.inr (.inr (11, [.ref (n + 1), .ref (n + 2), .null, .int 0, .null, .null, .int 0, .int 0])), .inl (7, fun _ => 0), .inl (268, fun _ => 0)]) (ap_set (k := 0) hA) ?_
  refine z_aload_n d_Mod_init_21 rfl 22 rfl ?_
  refine z_sipush d_Mod_init_22 268 (by decide) 25 rfl ?_
  refine z_newarray (kc1 := 2) (ks1 := 30) d_Mod_init_25 268 27 (n + 3) (A ++ [.inr (.inr (11, [.ref (n + 1), .ref (n + 2), .null, .int 0, .null, .null, .int 0, .int 0])), .inl (7, fun _ => 0), .inl (268, fun _ => 0), .inl (268, fun _ => 0)]) rfl zw_int rfl (by decide) rfl rfl (ap_len hA) (List.append_assoc A _ _) ?_
  refine z_put d_Mod_init_27 30 rfl fp_Mod_16_11 (Or.inr rfl) (ap_at hA (k := 0) rfl) (fun _ _ => rfl) (fun _ _ => rfl) (by simp) ?_
  refine z_hp (hp1 := A ++ [.inr (.inr (11, [.ref (n + 1), .ref (n + 2), .ref (n + 3), .int 0, .null, .null, .int 0, .int 0])), .inl (7, fun _ => 0), .inl (268, fun _ => 0), .inl (268, fun _ => 0)]) (ap_set (k := 0) hA) ?_
  refine z_aload_n d_Mod_init_30 rfl 31 rfl ?_
  refine z_bipush d_Mod_init_31 24 (by decide) 33 rfl ?_
  refine z_newarray (kc1 := 1) (ks1 := 6) d_Mod_init_33 24 35 (n + 4) (A ++ [.inr (.inr (11, [.ref (n + 1), .ref (n + 2), .ref (n + 3), .int 0, .null, .null, .int 0, .int 0])), .inl (7, fun _ => 0), .inl (268, fun _ => 0), .inl (268, fun _ => 0), .inl (24, fun _ => 0)]) rfl zw_int rfl (by decide) rfl rfl (ap_len hA) (List.append_assoc A _ _) ?_
  refine z_put d_Mod_init_35 38 rfl fp_Mod_19_11 (Or.inr rfl) (ap_at hA (k := 0) rfl) (fun _ _ => rfl) (fun _ _ => rfl) (by simp) ?_
  refine z_hp (hp1 := A ++ [.inr (.inr (11, [.ref (n + 1), .ref (n + 2), .ref (n + 3), .int 0, .ref (n + 4), .null, .int 0, .int 0])), .inl (7, fun _ => 0), .inl (268, fun _ => 0), .inl (268, fun _ => 0), .inl (24, fun _ => 0)]) (ap_set (k := 0) hA) ?_
  refine z_aload_n d_Mod_init_38 rfl 39 rfl ?_
  refine z_bipush d_Mod_init_39 6 (by decide) 41 rfl ?_
  refine z_newarray (kc1 := 0) (ks1 := 0) d_Mod_init_41 6 43 (n + 5) (A ++ [.inr (.inr (11, [.ref (n + 1), .ref (n + 2), .ref (n + 3), .int 0, .ref (n + 4), .null, .int 0, .int 0])), .inl (7, fun _ => 0), .inl (268, fun _ => 0), .inl (268, fun _ => 0), .inl (24, fun _ => 0), .inl (6, fun _ => 0)]) rfl zw_int rfl (by decide) rfl rfl (ap_len hA) (List.append_assoc A _ _) ?_
  refine z_put d_Mod_init_43 46 rfl fp_Mod_22_11 (Or.inr rfl) (ap_at hA (k := 0) rfl) (fun _ _ => rfl) (fun _ _ => rfl) (by simp) ?_
  refine z_hp (hp1 := A ++ [.inr (.inr (11, [.ref (n + 1), .ref (n + 2), .ref (n + 3), .int 0, .ref (n + 4), .ref (n + 5), .int 0, .int 0])), .inl (7, fun _ => 0), .inl (268, fun _ => 0), .inl (268, fun _ => 0), .inl (24, fun _ => 0), .inl (6, fun _ => 0)]) (ap_set (k := 0) hA) ?_
  refine z_iconst d_Mod_init_46 0 (by decide) 47 rfl ?_
  refine z_istore_n d_Mod_init_47 48 rfl (by decide) rfl ?_
  refine zloop (fun i => Z X m_Mod_init 1 0 0 (none) (A ++ [.inr (.inr (11, [.ref (n + 1), .ref (n + 2), .ref (n + 3), .int 0, .ref (n + 4), .ref (n + 5), .int 0, .int 0])), .inl (7, fun _ => 0), .inl (268, sI 6), .inl (268, fun _ => 0), .inl (24, fun _ => 0), .inl (6, fun _ => 0)]) 48 [some (.ref n), some (.int (nI i))] [] (A ++ [.inr (.inr (11, [.ref (n + 1), .ref (n + 2), .ref (n + 3), .int 0, .ref (n + 4), .ref (n + 5), .int 0, .int 0])), .inl (7, fun _ => 0), .inl (268, sI i), .inl (268, fun _ => 0), .inl (24, fun _ => 0), .inl (6, fun _ => 0)])) (6) ?_ ?_ 0 (Nat.zero_le _)
  · refine z_iload_n d_Mod_init_48 rfl 49 rfl ?_
    refine z_bipush d_Mod_init_49 6 (by decide) 51 rfl ?_
    refine z_icmp_ge d_Mod_init_51 132 54 (by decide) rfl (fun h1 => ?_) (fun hzz => absurd (by decide) hzz)
    exact z_return d_Mod_init_132 rfl rfl
  · intro i hi ih
    refine z_iload_n d_Mod_init_48 rfl 49 rfl ?_
    refine z_bipush d_Mod_init_49 6 (by decide) 51 rfl ?_
    refine z_icmp_ge d_Mod_init_51 132 54 (by decide) rfl (fun hzz => absurd hzz (show ¬ nI 6 ≤ nI i from nI_ge hi (by decide))) (fun h2 => ?_)
    refine z_aload_n d_Mod_init_54 rfl 55 rfl ?_
    refine z_get d_Mod_init_55 58 rfl fl_Mod_13_11 (ap_at hA (k := 0) rfl) rfl ?_
    refine z_sipush d_Mod_init_58 186 (by decide) 61 rfl ?_
    refine z_bipush d_Mod_init_61 8 (by decide) 63 rfl ?_
    refine z_iload_n d_Mod_init_63 rfl 64 rfl ?_
    refine z_imul d_Mod_init_64 65 rfl ?_
    refine z_iadd d_Mod_init_65 66 rfl ?_
    refine z_iconst d_Mod_init_66 1 (by decide) 67 rfl ?_
    refine z_iadd d_Mod_init_67 68 rfl ?_
    refine z_sipush d_Mod_init_68 999 (by decide) 71 rfl ?_
    refine z_iastore d_Mod_init_71 (186 + 8 * i + 1) 72 rfl (ap_at hA (k := 2) rfl) (by show nI 186 + nI 8 * nI i + nI 1 = _; simp only [pk_mul, nI_add]) (by omega) (by decide) ?_
    refine z_hp (ap_set (k := 2) hA) ?_
    refine z_aload_n d_Mod_init_72 rfl 73 rfl ?_
    refine z_get d_Mod_init_73 76 rfl fl_Mod_13_11 (ap_at hA (k := 0) rfl) rfl ?_
    refine z_sipush d_Mod_init_76 186 (by decide) 79 rfl ?_
    refine z_bipush d_Mod_init_79 8 (by decide) 81 rfl ?_
    refine z_iload_n d_Mod_init_81 rfl 82 rfl ?_
    refine z_imul d_Mod_init_82 83 rfl ?_
    refine z_iadd d_Mod_init_83 84 rfl ?_
    refine z_iconst d_Mod_init_84 3 (by decide) 85 rfl ?_
    refine z_iadd d_Mod_init_85 86 rfl ?_
    refine z_sipush d_Mod_init_86 999 (by decide) 89 rfl ?_
    refine z_iastore d_Mod_init_89 (186 + 8 * i + 3) 90 rfl (ap_at hA (k := 2) rfl) (by show nI 186 + nI 8 * nI i + nI 3 = _; simp only [pk_mul, nI_add]) (by omega) (by decide) ?_
    refine z_hp (ap_set (k := 2) hA) ?_
    refine z_aload_n d_Mod_init_90 rfl 91 rfl ?_
    refine z_get d_Mod_init_91 94 rfl fl_Mod_13_11 (ap_at hA (k := 0) rfl) rfl ?_
    refine z_sipush d_Mod_init_94 186 (by decide) 97 rfl ?_
    refine z_bipush d_Mod_init_97 8 (by decide) 99 rfl ?_
    refine z_iload_n d_Mod_init_99 rfl 100 rfl ?_
    refine z_imul d_Mod_init_100 101 rfl ?_
    refine z_iadd d_Mod_init_101 102 rfl ?_
    refine z_iconst d_Mod_init_102 4 (by decide) 103 rfl ?_
    refine z_iadd d_Mod_init_103 104 rfl ?_
    refine z_sipush d_Mod_init_104 255 (by decide) 107 rfl ?_
    refine z_iastore d_Mod_init_107 (186 + 8 * i + 4) 108 rfl (ap_at hA (k := 2) rfl) (by show nI 186 + nI 8 * nI i + nI 4 = _; simp only [pk_mul, nI_add]) (by omega) (by decide) ?_
    refine z_hp (ap_set (k := 2) hA) ?_
    refine z_aload_n d_Mod_init_108 rfl 109 rfl ?_
    refine z_get d_Mod_init_109 112 rfl fl_Mod_13_11 (ap_at hA (k := 0) rfl) rfl ?_
    refine z_sipush d_Mod_init_112 186 (by decide) 115 rfl ?_
    refine z_bipush d_Mod_init_115 8 (by decide) 117 rfl ?_
    refine z_iload_n d_Mod_init_117 rfl 118 rfl ?_
    refine z_imul d_Mod_init_118 119 rfl ?_
    refine z_iadd d_Mod_init_119 120 rfl ?_
    refine z_bipush d_Mod_init_120 7 (by decide) 122 rfl ?_
    refine z_iadd d_Mod_init_122 123 rfl ?_
    refine z_bipush d_Mod_init_123 10 (by decide) 125 rfl ?_
    refine z_iastore d_Mod_init_125 (186 + 8 * i + 7) 126 rfl (ap_at hA (k := 2) rfl) (by show nI 186 + nI 8 * nI i + nI 7 = _; simp only [pk_mul, nI_add]) (by omega) (by decide) ?_
    refine z_hp (ap_set (k := 2) hA) ?_
    refine z_iinc d_Mod_init_126 1 (by decide) 129 rfl rfl (by decide) rfl ?_
    refine z_goto d_Mod_init_129 48 (by decide) ?_
    exact z_L _ (by simp [List.set, nI_succ]) ih
