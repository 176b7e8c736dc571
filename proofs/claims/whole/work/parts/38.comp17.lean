theorem ws_tl {K : zKK} {u : zU} {tl : List zC} (j : Nat) (x : zC) : (wld K u tl).set (51 + j) x = wld K u (tl.set j x) := by
  rw [Nat.add_comm]; rfl
theorem wn_at {K : zKK} {u : zU} {tl : List zC} {x : zC} : (wld K u (tl ++ [x]))[51 + tl.length]? = some x := (wl_tl _).trans (by simp)
theorem wn_set {K : zKK} {u : zU} {tl : List zC} {x y : zC} : (wld K u (tl ++ [x])).set (51 + tl.length) y = wld K u (tl ++ [y]) := by
  rw [ws_tl]; congr 1; simp
theorem wn_app {K : zKK} {u : zU} {tl : List zC} {x : zC} : wld K u tl ++ [x] = wld K u (tl ++ [x]) := rfl
theorem fpT_15 {ci : Nat} (h : ci ∈ zTel) : zfp "LightInRoom$Telling" 15 ci 0 true .int := by
  simp only [zTel, List.mem_cons, List.not_mem_nil, or_false] at h
  rcases h with rfl | rfl | rfl | rfl | rfl | rfl
  · exact fp_Tel_15_1
  · exact fp_Tel_15_2
  · exact fp_Tel_15_3
  · exact fp_Tel_15_5
  · exact fp_Tel_15_8
  · exact fp_Tel_15_9
theorem fpT_21 {ci : Nat} (h : ci ∈ zTel) : zfp "LightInRoom$Telling" 21 ci 1 true .int := by
  simp only [zTel, List.mem_cons, List.not_mem_nil, or_false] at h
  rcases h with rfl | rfl | rfl | rfl | rfl | rfl
  · exact fp_Tel_21_1
  · exact fp_Tel_21_2
  · exact fp_Tel_21_3
  · exact fp_Tel_21_5
  · exact fp_Tel_21_8
  · exact fp_Tel_21_9
theorem fpT_25 {ci : Nat} (h : ci ∈ zTel) : zfp "LightInRoom$Telling" 25 ci 2 true .int := by
  simp only [zTel, List.mem_cons, List.not_mem_nil, or_false] at h
  rcases h with rfl | rfl | rfl | rfl | rfl | rfl
  · exact fp_Tel_25_1
  · exact fp_Tel_25_2
  · exact fp_Tel_25_3
  · exact fp_Tel_25_5
  · exact fp_Tel_25_8
  · exact fp_Tel_25_9
theorem fpT_29 {ci : Nat} (h : ci ∈ zTel) : zfp "LightInRoom$Telling" 29 ci 3 true .int := by
  simp only [zTel, List.mem_cons, List.not_mem_nil, or_false] at h
  rcases h with rfl | rfl | rfl | rfl | rfl | rfl
  · exact fp_Tel_29_1
  · exact fp_Tel_29_2
  · exact fp_Tel_29_3
  · exact fp_Tel_29_5
  · exact fp_Tel_29_8
  · exact fp_Tel_29_9
theorem fpT_33 {ci : Nat} (h : ci ∈ zTel) : zfp "LightInRoom$Telling" 33 ci 4 true .int := by
  simp only [zTel, List.mem_cons, List.not_mem_nil, or_false] at h
  rcases h with rfl | rfl | rfl | rfl | rfl | rfl
  · exact fp_Tel_33_1
  · exact fp_Tel_33_2
  · exact fp_Tel_33_3
  · exact fp_Tel_33_5
  · exact fp_Tel_33_8
  · exact fp_Tel_33_9
theorem fpT_38 {ci : Nat} (h : ci ∈ zTel) : zfp "LightInRoom$Telling" 38 ci 5 true .boolean := by
  simp only [zTel, List.mem_cons, List.not_mem_nil, or_false] at h
  rcases h with rfl | rfl | rfl | rfl | rfl | rfl
  · exact fp_Tel_38_1
  · exact fp_Tel_38_2
  · exact fp_Tel_38_3
  · exact fp_Tel_38_5
  · exact fp_Tel_38_8
  · exact fp_Tel_38_9
set_option maxHeartbeats 400000 in
theorem r_Tel_init {tk : Int32} {bt crf nt : Nat → Int32} {T PF PS : Nat → Option Nat} {C : Nat → Nat → Int32} {rc g pp bn sc : Nat → Int32} {b : zR} {u : zU} {tl : List zC} {p q : Nat} {z e c m y a : Int32} (ci : Nat) (hci : ci ∈ zTel) (ha : a = 0 ∨ a = 1) : Ret 1 0 0 m_Tel_init [.ref (51 + tl.length), .ref 1] (wld (tk, tpf p q z e c m y a, bt, (T, C, rc, PF, PS, g, pp, bn, sc), b, crf, nt) u (tl ++ [.inr (.inr (ci, [.int 0, .int 0, .int 0, .int 0, .int 0, .int 0]))])) (none) (wld (tk, tpf p q z e c m y a, bt, (T, C, rc, PF, PS, g, pp, bn, sc), b, crf, nt) u (tl ++ [.inr (.inr (ci, [.int z, .int e, .int c, .int m, .int y, .int a]))])) := by
  refine Ret.of (n := 0) (by decide) (trivial) rfl (fun X => ?_)
  refine z_aload_n d_Tel_init_0 rfl 1 rfl ?_
  refine z_objInit d_Tel_init_1 4 rfl lk_Tel_3 zo_2 zo_3 (by decide) (Nat.le_of_ble_eq_true rfl) ?_
  refine z_aload_n d_Tel_init_4 rfl 5 rfl ?_
  refine z_aload_n d_Tel_init_5 rfl 6 rfl ?_
  refine z_get d_Tel_init_6 9 rfl fl_Tel_9_7 wt_1 rfl ?_
  refine z_putI d_Tel_init_9 12 rfl (fpT_15 hci) (Or.inr rfl) wn_at (by simp) ?_
  refine z_hp wn_set ?_
  refine z_aload_n d_Tel_init_12 rfl 13 rfl ?_
  refine z_aload_n d_Tel_init_13 rfl 14 rfl ?_
  refine z_get d_Tel_init_14 17 rfl fl_Tel_18_7 wt_1 rfl ?_
  refine z_putI d_Tel_init_17 20 rfl (fpT_21 hci) (Or.inr rfl) wn_at (by simp) ?_
  refine z_hp wn_set ?_
  refine z_aload_n d_Tel_init_20 rfl 21 rfl ?_
  refine z_aload_n d_Tel_init_21 rfl 22 rfl ?_
  refine z_get d_Tel_init_22 25 rfl fl_Tel_22_7 wt_1 rfl ?_
  refine z_putI d_Tel_init_25 28 rfl (fpT_25 hci) (Or.inr rfl) wn_at (by simp) ?_
  refine z_hp wn_set ?_
  refine z_aload_n d_Tel_init_28 rfl 29 rfl ?_
  refine z_aload_n d_Tel_init_29 rfl 30 rfl ?_
  refine z_get d_Tel_init_30 33 rfl fl_Tel_26_7 wt_1 rfl ?_
  refine z_putI d_Tel_init_33 36 rfl (fpT_29 hci) (Or.inr rfl) wn_at (by simp) ?_
  refine z_hp wn_set ?_
  refine z_aload_n d_Tel_init_36 rfl 37 rfl ?_
  refine z_aload_n d_Tel_init_37 rfl 38 rfl ?_
  refine z_get d_Tel_init_38 41 rfl fl_Tel_30_7 wt_1 rfl ?_
  refine z_putI d_Tel_init_41 44 rfl (fpT_33 hci) (Or.inr rfl) wn_at (by simp) ?_
  refine z_hp wn_set ?_
  refine z_aload_n d_Tel_init_44 rfl 45 rfl ?_
  refine z_aload_n d_Tel_init_45 rfl 46 rfl ?_
  refine z_get d_Tel_init_46 49 rfl fl_Tel_34_7 wt_1 rfl ?_
  refine z_put d_Tel_init_49 52 rfl (fpT_38 hci) (Or.inr rfl) wn_at (fun _ _ => by rcases ha with rfl | rfl <;> rfl) (fun _ _ => by rcases ha with rfl | rfl <;> rfl) (by simp) ?_
  refine z_hp wn_set ?_
  exact z_return d_Tel_init_52 rfl rfl
set_option maxHeartbeats 400000 in
theorem r_Cal_init {tk : Int32} {bt crf nt : Nat → Int32} {T PF PS : Nat → Option Nat} {C : Nat → Nat → Int32} {rc g pp bn sc : Nat → Int32} {b : zR} {u : zU} {tl : List zC} {p q : Nat} {z e c m y a : Int32} (ci : Nat) (hci : ci ∈ zTel) (ha : a = 0 ∨ a = 1) : Ret 2 0 0 m_Cal_init [.ref (51 + tl.length), .ref 1] (wld (tk, tpf p q z e c m y a, bt, (T, C, rc, PF, PS, g, pp, bn, sc), b, crf, nt) u (tl ++ [.inr (.inr (ci, [.int 0, .int 0, .int 0, .int 0, .int 0, .int 0]))])) (none) (wld (tk, tpf p q z e c m y a, bt, (T, C, rc, PF, PS, g, pp, bn, sc), b, crf, nt) u (tl ++ [.inr (.inr (ci, [.int z, .int e, .int c, .int m, .int y, .int a]))])) := by
  refine Ret.of (n := 0) (by decide) (trivial) rfl (fun X => ?_)
  refine z_aload_n d_Cal_init_0 rfl 1 rfl ?_
  refine z_aload_n d_Cal_init_1 rfl 2 rfl ?_
  refine z_invI d_Cal_init_2 5 rfl hm_Tel_init lk_Cal_1 im_Tel_init rfl rfl (r_Tel_init ci hci ha) rfl rfl (by decide) rfl rfl (Nat.le_of_ble_eq_true rfl) ?_
  exact z_return d_Cal_init_5 rfl rfl
set_option maxHeartbeats 400000 in
theorem r_Eye_init {tk : Int32} {bt crf nt : Nat → Int32} {T PF PS : Nat → Option Nat} {C : Nat → Nat → Int32} {rc g pp bn sc : Nat → Int32} {b : zR} {u : zU} {tl : List zC} {p q : Nat} {z e c m y a : Int32} (ci : Nat) (hci : ci ∈ zTel) (ha : a = 0 ∨ a = 1) : Ret 2 0 0 m_Eye_init [.ref (51 + tl.length), .ref 1] (wld (tk, tpf p q z e c m y a, bt, (T, C, rc, PF, PS, g, pp, bn, sc), b, crf, nt) u (tl ++ [.inr (.inr (ci, [.int 0, .int 0, .int 0, .int 0, .int 0, .int 0]))])) (none) (wld (tk, tpf p q z e c m y a, bt, (T, C, rc, PF, PS, g, pp, bn, sc), b, crf, nt) u (tl ++ [.inr (.inr (ci, [.int z, .int e, .int c, .int m, .int y, .int a]))])) := by
  refine Ret.of (n := 0) (by decide) (trivial) rfl (fun X => ?_)
  refine z_aload_n d_Eye_init_0 rfl 1 rfl ?_
  refine z_aload_n d_Eye_init_1 rfl 2 rfl ?_
  refine z_invI d_Eye_init_2 5 rfl hm_Tel_init lk_Eye_1 im_Tel_init rfl rfl (r_Tel_init ci hci ha) rfl rfl (by decide) rfl rfl (Nat.le_of_ble_eq_true rfl) ?_
  exact z_return d_Eye_init_5 rfl rfl
set_option maxHeartbeats 400000 in
theorem r_Nea_init {tk : Int32} {bt crf nt : Nat → Int32} {T PF PS : Nat → Option Nat} {C : Nat → Nat → Int32} {rc g pp bn sc : Nat → Int32} {b : zR} {u : zU} {tl : List zC} {p q : Nat} {z e c m y a : Int32} (ci : Nat) (hci : ci ∈ zTel) (ha : a = 0 ∨ a = 1) : Ret 2 0 0 m_Nea_init [.ref (51 + tl.length), .ref 1] (wld (tk, tpf p q z e c m y a, bt, (T, C, rc, PF, PS, g, pp, bn, sc), b, crf, nt) u (tl ++ [.inr (.inr (ci, [.int 0, .int 0, .int 0, .int 0, .int 0, .int 0]))])) (none) (wld (tk, tpf p q z e c m y a, bt, (T, C, rc, PF, PS, g, pp, bn, sc), b, crf, nt) u (tl ++ [.inr (.inr (ci, [.int z, .int e, .int c, .int m, .int y, .int a]))])) := by
  refine Ret.of (n := 0) (by decide) (trivial) rfl (fun X => ?_)
  refine z_aload_n d_Nea_init_0 rfl 1 rfl ?_
  refine z_aload_n d_Nea_init_1 rfl 2 rfl ?_
  refine z_invI d_Nea_init_2 5 rfl hm_Tel_init lk_Nea_1 im_Tel_init rfl rfl (r_Tel_init ci hci ha) rfl rfl (by decide) rfl rfl (Nat.le_of_ble_eq_true rfl) ?_
  exact z_return d_Nea_init_5 rfl rfl
set_option maxHeartbeats 400000 in
theorem r_Wit_init {tk : Int32} {bt crf nt : Nat → Int32} {T PF PS : Nat → Option Nat} {C : Nat → Nat → Int32} {rc g pp bn sc : Nat → Int32} {b : zR} {u : zU} {tl : List zC} {p q : Nat} {z e c m y a : Int32} (ci : Nat) (hci : ci ∈ zTel) (ha : a = 0 ∨ a = 1) : Ret 2 0 0 m_Wit_init [.ref (51 + tl.length), .ref 1] (wld (tk, tpf p q z e c m y a, bt, (T, C, rc, PF, PS, g, pp, bn, sc), b, crf, nt) u (tl ++ [.inr (.inr (ci, [.int 0, .int 0, .int 0, .int 0, .int 0, .int 0]))])) (none) (wld (tk, tpf p q z e c m y a, bt, (T, C, rc, PF, PS, g, pp, bn, sc), b, crf, nt) u (tl ++ [.inr (.inr (ci, [.int z, .int e, .int c, .int m, .int y, .int a]))])) := by
  refine Ret.of (n := 0) (by decide) (trivial) rfl (fun X => ?_)
  refine z_aload_n d_Wit_init_0 rfl 1 rfl ?_
  refine z_aload_n d_Wit_init_1 rfl 2 rfl ?_
  refine z_invI d_Wit_init_2 5 rfl hm_Tel_init lk_Wit_1 im_Tel_init rfl rfl (r_Tel_init ci hci ha) rfl rfl (by decide) rfl rfl (Nat.le_of_ble_eq_true rfl) ?_
  exact z_return d_Wit_init_5 rfl rfl
set_option maxHeartbeats 400000 in
theorem r_Gro_init {tk : Int32} {bt crf nt : Nat → Int32} {T PF PS : Nat → Option Nat} {C : Nat → Nat → Int32} {rc g pp bn sc : Nat → Int32} {b : zR} {u : zU} {tl : List zC} {p q : Nat} {z e c m y a : Int32} (ci : Nat) (hci : ci ∈ zTel) (ha : a = 0 ∨ a = 1) : Ret 3 0 0 m_Gro_init [.ref (51 + tl.length), .ref 1] (wld (tk, tpf p q z e c m y a, bt, (T, C, rc, PF, PS, g, pp, bn, sc), b, crf, nt) u (tl ++ [.inr (.inr (ci, [.int 0, .int 0, .int 0, .int 0, .int 0, .int 0]))])) (none) (wld (tk, tpf p q z e c m y a, bt, (T, C, rc, PF, PS, g, pp, bn, sc), b, crf, nt) u (tl ++ [.inr (.inr (ci, [.int z, .int e, .int c, .int m, .int y, .int a]))])) := by
  refine Ret.of (n := 0) (by decide) (trivial) rfl (fun X => ?_)
  refine z_aload_n d_Gro_init_0 rfl 1 rfl ?_
  refine z_aload_n d_Gro_init_1 rfl 2 rfl ?_
  refine z_invI d_Gro_init_2 5 rfl hm_Wit_init lk_Gro_3 im_Wit_init rfl rfl (r_Wit_init ci hci ha) rfl rfl (by decide) rfl rfl (Nat.le_of_ble_eq_true rfl) ?_
  exact z_return d_Gro_init_5 rfl rfl
set_option maxHeartbeats 400000 in
theorem r_Thr_init {tk : Int32} {bt crf nt : Nat → Int32} {T PF PS : Nat → Option Nat} {C : Nat → Nat → Int32} {rc g pp bn sc : Nat → Int32} {b : zR} {u : zU} {tl : List zC} {p q : Nat} {z e c m y a : Int32} (ci : Nat) (hci : ci ∈ zTel) (ha : a = 0 ∨ a = 1) : Ret 3 0 0 m_Thr_init [.ref (51 + tl.length), .ref 1] (wld (tk, tpf p q z e c m y a, bt, (T, C, rc, PF, PS, g, pp, bn, sc), b, crf, nt) u (tl ++ [.inr (.inr (ci, [.int 0, .int 0, .int 0, .int 0, .int 0, .int 0]))])) (none) (wld (tk, tpf p q z e c m y a, bt, (T, C, rc, PF, PS, g, pp, bn, sc), b, crf, nt) u (tl ++ [.inr (.inr (ci, [.int z, .int e, .int c, .int m, .int y, .int a]))])) := by
  refine Ret.of (n := 0) (by decide) (trivial) rfl (fun X => ?_)
  refine z_aload_n d_Thr_init_0 rfl 1 rfl ?_
  refine z_aload_n d_Thr_init_1 rfl 2 rfl ?_
  refine z_invI d_Thr_init_2 5 rfl hm_Nea_init lk_Thr_3 im_Nea_init rfl rfl (r_Nea_init ci hci ha) rfl rfl (by decide) rfl rfl (Nat.le_of_ble_eq_true rfl) ?_
  exact z_return d_Thr_init_5 rfl rfl
def tv6 (z e c m y a : Int32) : Nat → Int32 := fun k => if k = 0 then z else if k = 1 then e else if k = 2 then c else if k = 3 then m else if k = 4 then y else a
set_option maxHeartbeats 400000 in
theorem r_Tap_newTelling {tk : Int32} {bt crf nt : Nat → Int32} {T PF PS : Nat → Option Nat} {C : Nat → Nat → Int32} {rc g pp bn sc : Nat → Int32} {b : zR} {u : zU} {tl : List zC} {p q : Nat} {z e c m y a : Int32} (ha : a = 0 ∨ a = 1) : Ret 4 1 6 m_Tap_newTelling [.ref 1] (wld (tk, tpf p q z e c m y a, bt, (T, C, rc, PF, PS, g, pp, bn, sc), b, crf, nt) u tl) (some (.ref (51 + tl.length))) (wld (tk, tpf p q z e c m y a, bt, (T, C, rc, PF, PS, g, pp, bn, sc), b, crf, nt) u (tl ++ [tcell (tv6 z e c m y a)])) := by
  refine Ret.of (n := 0) (by decide) (trivial) rfl (fun X => ?_)
  refine z_aload_n d_Tap_newTelling_0 rfl 1 rfl ?_
  refine z_get d_Tap_newTelling_1 4 rfl fl_Tap_43_7 wt_1 rfl ?_
  refine z_if_eq d_Tap_newTelling_4 16 7 (by decide) rfl (fun h1 => ?_) (fun h1 => ?_)
  · have e0 : ¬ a = 1 := by have := h1; rw [show a = 0 from this]; decide
    refine z_aload_n d_Tap_newTelling_16 rfl 17 rfl ?_
    refine z_get d_Tap_newTelling_17 20 rfl fl_Tap_52_7 wt_1 rfl ?_
    refine z_iconst d_Tap_newTelling_20 5 (by decide) 21 rfl ?_
    refine z_invSN d_Tap_newTelling_21 24 rfl hm_Lir_hasBit (by decide) st_Lir_hasBit (r_Lir_hasBit _ _) rfl rfl (by decide) rfl rfl (Nat.le_of_ble_eq_true rfl) ?_
    refine z_if_eq d_Tap_newTelling_24 48 27 (by decide) rfl (fun h2 => ?_) (fun h2 => ?_)
    · have e5 : mkd m 5 = false := (zb_eq _).mp h2
      refine z_aload_n d_Tap_newTelling_48 rfl 49 rfl ?_
      refine z_get d_Tap_newTelling_49 52 rfl fl_Tap_52_7 wt_1 rfl ?_
      refine z_iconst d_Tap_newTelling_52 3 (by decide) 53 rfl ?_
      refine z_invSN d_Tap_newTelling_53 56 rfl hm_Lir_hasBit (by decide) st_Lir_hasBit (r_Lir_hasBit _ _) rfl rfl (by decide) rfl rfl (Nat.le_of_ble_eq_true rfl) ?_
      refine z_if_eq d_Tap_newTelling_56 79 59 (by decide) rfl (fun h3 => ?_) (fun h3 => ?_)
      · have e3 : mkd m 3 = false := (zb_eq _).mp h3
        refine z_aload_n d_Tap_newTelling_79 rfl 80 rfl ?_
        refine z_get d_Tap_newTelling_80 83 rfl fl_Tap_52_7 wt_1 rfl ?_
        refine z_iconst d_Tap_newTelling_83 4 (by decide) 84 rfl ?_
        refine z_invSN d_Tap_newTelling_84 87 rfl hm_Lir_hasBit (by decide) st_Lir_hasBit (r_Lir_hasBit _ _) rfl rfl (by decide) rfl rfl (Nat.le_of_ble_eq_true rfl) ?_
        refine z_if_eq d_Tap_newTelling_87 99 90 (by decide) rfl (fun h4 => ?_) (fun h4 => ?_)
        · have e4b : mkd m 4 = false := (zb_eq _).mp h4
          refine z_aload_n d_Tap_newTelling_99 rfl 100 rfl ?_
          refine z_get d_Tap_newTelling_100 103 rfl fl_Tap_68_7 wt_1 rfl ?_
          refine z_bipush d_Tap_newTelling_103 20 (by decide) 105 rfl ?_
          refine z_icmp_lt d_Tap_newTelling_105 119 108 (by decide) rfl (fun h5 => ?_) (fun h5 => ?_)
          · have ey : ¬ 20 ≤ y := Int32.not_le.mpr h5
            refine z_new (kc1 := 0) (ks1 := 0) d_Tap_newTelling_119 122 (51 + tl.length) _ rfl nw_Tap_74 (fun _ _ => rfl) rfl rfl wl_len wn_app ?_
            refine z_dup d_Tap_newTelling_122 rfl 123 rfl ?_
            refine z_aload_n d_Tap_newTelling_123 rfl 124 rfl ?_
            refine z_invI d_Tap_newTelling_124 127 rfl hm_Wit_init lk_Tap_76 im_Wit_init rfl rfl (r_Wit_init 9 (by decide) ha) rfl rfl (by decide) rfl rfl (Nat.le_of_ble_eq_true rfl) ?_
            exact z_areturn d_Tap_newTelling_127 (rfl) (by first | exact absurd e4 (by rw [e4b]; decide) | simp [tcell, tv6, kdV, kci, *])
          · have ey : 20 ≤ y := Int32.not_lt.mp h5
            refine z_new (kc1 := 0) (ks1 := 0) d_Tap_newTelling_108 111 (51 + tl.length) _ rfl nw_Tap_71 (fun _ _ => rfl) rfl rfl wl_len wn_app ?_
            refine z_dup d_Tap_newTelling_111 rfl 112 rfl ?_
            refine z_aload_n d_Tap_newTelling_112 rfl 113 rfl ?_
            refine z_invI d_Tap_newTelling_113 116 rfl hm_Gro_init lk_Tap_73 im_Gro_init rfl rfl (r_Gro_init 3 (by decide) ha) rfl rfl (by decide) rfl rfl (Nat.le_of_ble_eq_true rfl) ?_
            refine z_goto d_Tap_newTelling_116 127 (by decide) ?_
            exact z_areturn d_Tap_newTelling_127 (rfl) (by first | exact absurd e4 (by rw [e4b]; decide) | simp [tcell, tv6, kdV, kci, *])
        · have e4b : mkd m 4 = true := (zb_ne _).mp h4
          refine z_new (kc1 := 0) (ks1 := 0) d_Tap_newTelling_90 93 (51 + tl.length) _ rfl nw_Tap_65 (fun _ _ => rfl) rfl rfl wl_len wn_app ?_
          refine z_dup d_Tap_newTelling_93 rfl 94 rfl ?_
          refine z_aload_n d_Tap_newTelling_94 rfl 95 rfl ?_
          refine z_invI d_Tap_newTelling_95 98 rfl hm_Nea_init lk_Tap_67 im_Nea_init rfl rfl (r_Nea_init 5 (by decide) ha) rfl rfl (by decide) rfl rfl (Nat.le_of_ble_eq_true rfl) ?_
          exact z_areturn d_Tap_newTelling_98 (rfl) (by first | exact absurd e4 (by rw [e4b]; decide) | simp [tcell, tv6, kdV, kci, *])
      · have e3 : mkd m 3 = true := (zb_ne _).mp h3
        refine z_aload_n d_Tap_newTelling_59 rfl 60 rfl ?_
        refine z_get d_Tap_newTelling_60 63 rfl fl_Tap_52_7 wt_1 rfl ?_
        refine z_iconst d_Tap_newTelling_63 4 (by decide) 64 rfl ?_
        refine z_invSN d_Tap_newTelling_64 67 rfl hm_Lir_hasBit (by decide) st_Lir_hasBit (r_Lir_hasBit _ _) rfl rfl (by decide) rfl rfl (Nat.le_of_ble_eq_true rfl) ?_
        refine z_if_eq d_Tap_newTelling_67 79 70 (by decide) rfl (fun h6 => ?_) (fun h6 => ?_)
        · have e4 : mkd m 4 = false := (zb_eq _).mp h6
          refine z_aload_n d_Tap_newTelling_79 rfl 80 rfl ?_
          refine z_get d_Tap_newTelling_80 83 rfl fl_Tap_52_7 wt_1 rfl ?_
          refine z_iconst d_Tap_newTelling_83 4 (by decide) 84 rfl ?_
          refine z_invSN d_Tap_newTelling_84 87 rfl hm_Lir_hasBit (by decide) st_Lir_hasBit (r_Lir_hasBit _ _) rfl rfl (by decide) rfl rfl (Nat.le_of_ble_eq_true rfl) ?_
          refine z_if_eq d_Tap_newTelling_87 99 90 (by decide) rfl (fun h7 => ?_) (fun h7 => ?_)
          · have e4b : mkd m 4 = false := (zb_eq _).mp h7
            refine z_aload_n d_Tap_newTelling_99 rfl 100 rfl ?_
            refine z_get d_Tap_newTelling_100 103 rfl fl_Tap_68_7 wt_1 rfl ?_
            refine z_bipush d_Tap_newTelling_103 20 (by decide) 105 rfl ?_
            refine z_icmp_lt d_Tap_newTelling_105 119 108 (by decide) rfl (fun h8 => ?_) (fun h8 => ?_)
            · have ey : ¬ 20 ≤ y := Int32.not_le.mpr h8
              refine z_new (kc1 := 0) (ks1 := 0) d_Tap_newTelling_119 122 (51 + tl.length) _ rfl nw_Tap_74 (fun _ _ => rfl) rfl rfl wl_len wn_app ?_
              refine z_dup d_Tap_newTelling_122 rfl 123 rfl ?_
              refine z_aload_n d_Tap_newTelling_123 rfl 124 rfl ?_
              refine z_invI d_Tap_newTelling_124 127 rfl hm_Wit_init lk_Tap_76 im_Wit_init rfl rfl (r_Wit_init 9 (by decide) ha) rfl rfl (by decide) rfl rfl (Nat.le_of_ble_eq_true rfl) ?_
              exact z_areturn d_Tap_newTelling_127 (rfl) (by first | exact absurd e4 (by rw [e4b]; decide) | simp [tcell, tv6, kdV, kci, *])
            · have ey : 20 ≤ y := Int32.not_lt.mp h8
              refine z_new (kc1 := 0) (ks1 := 0) d_Tap_newTelling_108 111 (51 + tl.length) _ rfl nw_Tap_71 (fun _ _ => rfl) rfl rfl wl_len wn_app ?_
              refine z_dup d_Tap_newTelling_111 rfl 112 rfl ?_
              refine z_aload_n d_Tap_newTelling_112 rfl 113 rfl ?_
              refine z_invI d_Tap_newTelling_113 116 rfl hm_Gro_init lk_Tap_73 im_Gro_init rfl rfl (r_Gro_init 3 (by decide) ha) rfl rfl (by decide) rfl rfl (Nat.le_of_ble_eq_true rfl) ?_
              refine z_goto d_Tap_newTelling_116 127 (by decide) ?_
              exact z_areturn d_Tap_newTelling_127 (rfl) (by first | exact absurd e4 (by rw [e4b]; decide) | simp [tcell, tv6, kdV, kci, *])
          · have e4b : mkd m 4 = true := (zb_ne _).mp h7
            refine z_new (kc1 := 0) (ks1 := 0) d_Tap_newTelling_90 93 (51 + tl.length) _ rfl nw_Tap_65 (fun _ _ => rfl) rfl rfl wl_len wn_app ?_
            refine z_dup d_Tap_newTelling_93 rfl 94 rfl ?_
            refine z_aload_n d_Tap_newTelling_94 rfl 95 rfl ?_
            refine z_invI d_Tap_newTelling_95 98 rfl hm_Nea_init lk_Tap_67 im_Nea_init rfl rfl (r_Nea_init 5 (by decide) ha) rfl rfl (by decide) rfl rfl (Nat.le_of_ble_eq_true rfl) ?_
            exact z_areturn d_Tap_newTelling_98 (rfl) (by first | exact absurd e4 (by rw [e4b]; decide) | simp [tcell, tv6, kdV, kci, *])
        · have e4 : mkd m 4 = true := (zb_ne _).mp h6
          refine z_new (kc1 := 0) (ks1 := 0) d_Tap_newTelling_70 73 (51 + tl.length) _ rfl nw_Tap_62 (fun _ _ => rfl) rfl rfl wl_len wn_app ?_
          refine z_dup d_Tap_newTelling_73 rfl 74 rfl ?_
          refine z_aload_n d_Tap_newTelling_74 rfl 75 rfl ?_
          refine z_invI d_Tap_newTelling_75 78 rfl hm_Thr_init lk_Tap_64 im_Thr_init rfl rfl (r_Thr_init 8 (by decide) ha) rfl rfl (by decide) rfl rfl (Nat.le_of_ble_eq_true rfl) ?_
          exact z_areturn d_Tap_newTelling_78 (rfl) (by first | exact absurd e4 (by rw [e4b]; decide) | simp [tcell, tv6, kdV, kci, *])
    · have e5 : mkd m 5 = true := (zb_ne _).mp h2
      refine z_aload_n d_Tap_newTelling_27 rfl 28 rfl ?_
      refine z_get d_Tap_newTelling_28 31 rfl fl_Tap_52_7 wt_1 rfl ?_
      refine z_bipush d_Tap_newTelling_31 6 (by decide) 33 rfl ?_
      refine z_invSN d_Tap_newTelling_33 36 rfl hm_Lir_hasBit (by decide) st_Lir_hasBit (r_Lir_hasBit _ _) rfl rfl (by decide) rfl rfl (Nat.le_of_ble_eq_true rfl) ?_
      refine z_if_ne d_Tap_newTelling_36 48 39 (by decide) rfl (fun h9 => ?_) (fun h9 => ?_)
      · have e6 : mkd m 6 = true := (zb_ne _).mp h9
        refine z_aload_n d_Tap_newTelling_48 rfl 49 rfl ?_
        refine z_get d_Tap_newTelling_49 52 rfl fl_Tap_52_7 wt_1 rfl ?_
        refine z_iconst d_Tap_newTelling_52 3 (by decide) 53 rfl ?_
        refine z_invSN d_Tap_newTelling_53 56 rfl hm_Lir_hasBit (by decide) st_Lir_hasBit (r_Lir_hasBit _ _) rfl rfl (by decide) rfl rfl (Nat.le_of_ble_eq_true rfl) ?_
        refine z_if_eq d_Tap_newTelling_56 79 59 (by decide) rfl (fun h10 => ?_) (fun h10 => ?_)
        · have e3 : mkd m 3 = false := (zb_eq _).mp h10
          refine z_aload_n d_Tap_newTelling_79 rfl 80 rfl ?_
          refine z_get d_Tap_newTelling_80 83 rfl fl_Tap_52_7 wt_1 rfl ?_
          refine z_iconst d_Tap_newTelling_83 4 (by decide) 84 rfl ?_
          refine z_invSN d_Tap_newTelling_84 87 rfl hm_Lir_hasBit (by decide) st_Lir_hasBit (r_Lir_hasBit _ _) rfl rfl (by decide) rfl rfl (Nat.le_of_ble_eq_true rfl) ?_
          refine z_if_eq d_Tap_newTelling_87 99 90 (by decide) rfl (fun h11 => ?_) (fun h11 => ?_)
          · have e4b : mkd m 4 = false := (zb_eq _).mp h11
            refine z_aload_n d_Tap_newTelling_99 rfl 100 rfl ?_
            refine z_get d_Tap_newTelling_100 103 rfl fl_Tap_68_7 wt_1 rfl ?_
            refine z_bipush d_Tap_newTelling_103 20 (by decide) 105 rfl ?_
            refine z_icmp_lt d_Tap_newTelling_105 119 108 (by decide) rfl (fun h12 => ?_) (fun h12 => ?_)
            · have ey : ¬ 20 ≤ y := Int32.not_le.mpr h12
              refine z_new (kc1 := 0) (ks1 := 0) d_Tap_newTelling_119 122 (51 + tl.length) _ rfl nw_Tap_74 (fun _ _ => rfl) rfl rfl wl_len wn_app ?_
              refine z_dup d_Tap_newTelling_122 rfl 123 rfl ?_
              refine z_aload_n d_Tap_newTelling_123 rfl 124 rfl ?_
              refine z_invI d_Tap_newTelling_124 127 rfl hm_Wit_init lk_Tap_76 im_Wit_init rfl rfl (r_Wit_init 9 (by decide) ha) rfl rfl (by decide) rfl rfl (Nat.le_of_ble_eq_true rfl) ?_
              exact z_areturn d_Tap_newTelling_127 (rfl) (by first | exact absurd e4 (by rw [e4b]; decide) | simp [tcell, tv6, kdV, kci, *])
            · have ey : 20 ≤ y := Int32.not_lt.mp h12
              refine z_new (kc1 := 0) (ks1 := 0) d_Tap_newTelling_108 111 (51 + tl.length) _ rfl nw_Tap_71 (fun _ _ => rfl) rfl rfl wl_len wn_app ?_
              refine z_dup d_Tap_newTelling_111 rfl 112 rfl ?_
              refine z_aload_n d_Tap_newTelling_112 rfl 113 rfl ?_
              refine z_invI d_Tap_newTelling_113 116 rfl hm_Gro_init lk_Tap_73 im_Gro_init rfl rfl (r_Gro_init 3 (by decide) ha) rfl rfl (by decide) rfl rfl (Nat.le_of_ble_eq_true rfl) ?_
              refine z_goto d_Tap_newTelling_116 127 (by decide) ?_
              exact z_areturn d_Tap_newTelling_127 (rfl) (by first | exact absurd e4 (by rw [e4b]; decide) | simp [tcell, tv6, kdV, kci, *])
          · have e4b : mkd m 4 = true := (zb_ne _).mp h11
            refine z_new (kc1 := 0) (ks1 := 0) d_Tap_newTelling_90 93 (51 + tl.length) _ rfl nw_Tap_65 (fun _ _ => rfl) rfl rfl wl_len wn_app ?_
            refine z_dup d_Tap_newTelling_93 rfl 94 rfl ?_
            refine z_aload_n d_Tap_newTelling_94 rfl 95 rfl ?_
            refine z_invI d_Tap_newTelling_95 98 rfl hm_Nea_init lk_Tap_67 im_Nea_init rfl rfl (r_Nea_init 5 (by decide) ha) rfl rfl (by decide) rfl rfl (Nat.le_of_ble_eq_true rfl) ?_
            exact z_areturn d_Tap_newTelling_98 (rfl) (by first | exact absurd e4 (by rw [e4b]; decide) | simp [tcell, tv6, kdV, kci, *])
        · have e3 : mkd m 3 = true := (zb_ne _).mp h10
          refine z_aload_n d_Tap_newTelling_59 rfl 60 rfl ?_
          refine z_get d_Tap_newTelling_60 63 rfl fl_Tap_52_7 wt_1 rfl ?_
          refine z_iconst d_Tap_newTelling_63 4 (by decide) 64 rfl ?_
          refine z_invSN d_Tap_newTelling_64 67 rfl hm_Lir_hasBit (by decide) st_Lir_hasBit (r_Lir_hasBit _ _) rfl rfl (by decide) rfl rfl (Nat.le_of_ble_eq_true rfl) ?_
          refine z_if_eq d_Tap_newTelling_67 79 70 (by decide) rfl (fun h13 => ?_) (fun h13 => ?_)
          · have e4 : mkd m 4 = false := (zb_eq _).mp h13
            refine z_aload_n d_Tap_newTelling_79 rfl 80 rfl ?_
            refine z_get d_Tap_newTelling_80 83 rfl fl_Tap_52_7 wt_1 rfl ?_
            refine z_iconst d_Tap_newTelling_83 4 (by decide) 84 rfl ?_
            refine z_invSN d_Tap_newTelling_84 87 rfl hm_Lir_hasBit (by decide) st_Lir_hasBit (r_Lir_hasBit _ _) rfl rfl (by decide) rfl rfl (Nat.le_of_ble_eq_true rfl) ?_
            refine z_if_eq d_Tap_newTelling_87 99 90 (by decide) rfl (fun h14 => ?_) (fun h14 => ?_)
            · have e4b : mkd m 4 = false := (zb_eq _).mp h14
              refine z_aload_n d_Tap_newTelling_99 rfl 100 rfl ?_
              refine z_get d_Tap_newTelling_100 103 rfl fl_Tap_68_7 wt_1 rfl ?_
              refine z_bipush d_Tap_newTelling_103 20 (by decide) 105 rfl ?_
              refine z_icmp_lt d_Tap_newTelling_105 119 108 (by decide) rfl (fun h15 => ?_) (fun h15 => ?_)
              · have ey : ¬ 20 ≤ y := Int32.not_le.mpr h15
                refine z_new (kc1 := 0) (ks1 := 0) d_Tap_newTelling_119 122 (51 + tl.length) _ rfl nw_Tap_74 (fun _ _ => rfl) rfl rfl wl_len wn_app ?_
                refine z_dup d_Tap_newTelling_122 rfl 123 rfl ?_
                refine z_aload_n d_Tap_newTelling_123 rfl 124 rfl ?_
                refine z_invI d_Tap_newTelling_124 127 rfl hm_Wit_init lk_Tap_76 im_Wit_init rfl rfl (r_Wit_init 9 (by decide) ha) rfl rfl (by decide) rfl rfl (Nat.le_of_ble_eq_true rfl) ?_
                exact z_areturn d_Tap_newTelling_127 (rfl) (by first | exact absurd e4 (by rw [e4b]; decide) | simp [tcell, tv6, kdV, kci, *])
              · have ey : 20 ≤ y := Int32.not_lt.mp h15
                refine z_new (kc1 := 0) (ks1 := 0) d_Tap_newTelling_108 111 (51 + tl.length) _ rfl nw_Tap_71 (fun _ _ => rfl) rfl rfl wl_len wn_app ?_
                refine z_dup d_Tap_newTelling_111 rfl 112 rfl ?_
                refine z_aload_n d_Tap_newTelling_112 rfl 113 rfl ?_
                refine z_invI d_Tap_newTelling_113 116 rfl hm_Gro_init lk_Tap_73 im_Gro_init rfl rfl (r_Gro_init 3 (by decide) ha) rfl rfl (by decide) rfl rfl (Nat.le_of_ble_eq_true rfl) ?_
                refine z_goto d_Tap_newTelling_116 127 (by decide) ?_
                exact z_areturn d_Tap_newTelling_127 (rfl) (by first | exact absurd e4 (by rw [e4b]; decide) | simp [tcell, tv6, kdV, kci, *])
            · have e4b : mkd m 4 = true := (zb_ne _).mp h14
              refine z_new (kc1 := 0) (ks1 := 0) d_Tap_newTelling_90 93 (51 + tl.length) _ rfl nw_Tap_65 (fun _ _ => rfl) rfl rfl wl_len wn_app ?_
              refine z_dup d_Tap_newTelling_93 rfl 94 rfl ?_
              refine z_aload_n d_Tap_newTelling_94 rfl 95 rfl ?_
              refine z_invI d_Tap_newTelling_95 98 rfl hm_Nea_init lk_Tap_67 im_Nea_init rfl rfl (r_Nea_init 5 (by decide) ha) rfl rfl (by decide) rfl rfl (Nat.le_of_ble_eq_true rfl) ?_
              exact z_areturn d_Tap_newTelling_98 (rfl) (by first | exact absurd e4 (by rw [e4b]; decide) | simp [tcell, tv6, kdV, kci, *])
          · have e4 : mkd m 4 = true := (zb_ne _).mp h13
            refine z_new (kc1 := 0) (ks1 := 0) d_Tap_newTelling_70 73 (51 + tl.length) _ rfl nw_Tap_62 (fun _ _ => rfl) rfl rfl wl_len wn_app ?_
            refine z_dup d_Tap_newTelling_73 rfl 74 rfl ?_
            refine z_aload_n d_Tap_newTelling_74 rfl 75 rfl ?_
            refine z_invI d_Tap_newTelling_75 78 rfl hm_Thr_init lk_Tap_64 im_Thr_init rfl rfl (r_Thr_init 8 (by decide) ha) rfl rfl (by decide) rfl rfl (Nat.le_of_ble_eq_true rfl) ?_
            exact z_areturn d_Tap_newTelling_78 (rfl) (by first | exact absurd e4 (by rw [e4b]; decide) | simp [tcell, tv6, kdV, kci, *])
      · have e6 : mkd m 6 = false := (zb_eq _).mp h9
        refine z_new (kc1 := 0) (ks1 := 0) d_Tap_newTelling_39 42 (51 + tl.length) _ rfl nw_Tap_59 (fun _ _ => rfl) rfl rfl wl_len wn_app ?_
        refine z_dup d_Tap_newTelling_42 rfl 43 rfl ?_
        refine z_aload_n d_Tap_newTelling_43 rfl 44 rfl ?_
        refine z_invI d_Tap_newTelling_44 47 rfl hm_Eye_init lk_Tap_61 im_Eye_init rfl rfl (r_Eye_init 2 (by decide) ha) rfl rfl (by decide) rfl rfl (Nat.le_of_ble_eq_true rfl) ?_
        exact z_areturn d_Tap_newTelling_47 (rfl) (by first | exact absurd e4 (by rw [e4b]; decide) | simp [tcell, tv6, kdV, kci, *])
  · have e0 : a = 1 := ha.resolve_left h1
    refine z_new (kc1 := 0) (ks1 := 0) d_Tap_newTelling_7 10 (51 + tl.length) _ rfl nw_Tap_47 (fun _ _ => rfl) rfl rfl wl_len wn_app ?_
    refine z_dup d_Tap_newTelling_10 rfl 11 rfl ?_
    refine z_aload_n d_Tap_newTelling_11 rfl 12 rfl ?_
    refine z_invI d_Tap_newTelling_12 15 rfl hm_Cal_init lk_Tap_49 im_Cal_init rfl rfl (r_Cal_init 1 (by decide) ha) rfl rfl (by decide) rfl rfl (Nat.le_of_ble_eq_true rfl) ?_
    exact z_areturn d_Tap_newTelling_15 (rfl) (by first | exact absurd e4 (by rw [e4b]; decide) | simp [tcell, tv6, kdV, kci, *])
set_option maxHeartbeats 400000 in
theorem r_Roo_addTelling {tk : Int32} {tp bt crf nt : Nat → Int32} {T PF PS : Nat → Option Nat} {C : Nat → Nat → Int32} {rc g pp bn sc : Nat → Int32} {b : zR} {u : zU} {tl : List zC} (n j : Nat) {v : Nat → Int32} (hn : sc 0 = nI n) (hn3 : n < 30) (hj : tl[j]? = some (tcell v)) : Ret 0 0 0 m_Roo_addTelling [.ref 3, .ref (51 + j)] (wld (tk, tp, bt, (T, C, rc, PF, PS, g, pp, bn, sc), b, crf, nt) u tl) (some (.int (nI n))) (wld (tk, tp, bt, (va_up T n (some (51 + j)), C, rc, PF, PS, g, pp, bn, upd sc 0 (nI n + 1)), b, crf, nt) u tl) := by
  refine Ret.of (n := 0) (by decide) (rfl) rfl (fun X => ?_)
  refine z_aload_n d_Roo_addTelling_0 rfl 1 rfl ?_
  refine z_get d_Roo_addTelling_1 4 rfl fl_Roo_77_6 wc_3 rfl ?_
  refine z_if_lt d_Roo_addTelling_4 19 7 (by decide) rfl (fun hzz => absurd hzz (by rw [hn]; exact nI_pos (by omega))) (fun h1 => ?_)
  refine z_aload_n d_Roo_addTelling_7 rfl 8 rfl ?_
  refine z_get d_Roo_addTelling_8 11 rfl fl_Roo_77_6 wc_3 rfl ?_
  refine z_aload_n d_Roo_addTelling_11 rfl 12 rfl ?_
  refine z_get d_Roo_addTelling_12 15 rfl fl_Roo_11_6 wc_3 rfl ?_
  refine z_alenR d_Roo_addTelling_15 16 rfl wc_4 (by decide) 30 (by decide) ?_
  refine z_icmp_lt d_Roo_addTelling_16 22 19 (by decide) rfl (fun h2 => ?_) (fun hzz => absurd (by rw [hn]; exact (show nI n < nI 30 from nI_lt hn3 (by decide))) hzz)
  refine z_aload_n d_Roo_addTelling_22 rfl 23 rfl ?_
  refine z_get d_Roo_addTelling_23 26 rfl fl_Roo_11_6 wc_3 rfl ?_
  refine z_aload_n d_Roo_addTelling_26 rfl 27 rfl ?_
  refine z_get d_Roo_addTelling_27 30 rfl fl_Roo_77_6 wc_3 rfl ?_
  refine z_aload_n d_Roo_addTelling_30 rfl 31 rfl ?_
  refine z_aastoreT d_Roo_addTelling_31 n 32 rfl wc_4 ((wl_tl j).trans hj) (kci_mem _) hn hn3 (by decide) ?_
  refine z_hp ws_4 ?_
  refine z_aload_n d_Roo_addTelling_32 rfl 33 rfl ?_
  refine z_dup d_Roo_addTelling_33 rfl 34 rfl ?_
  refine z_get d_Roo_addTelling_34 37 rfl fl_Roo_77_6 wc_3 rfl ?_
  refine z_iconst d_Roo_addTelling_37 1 (by decide) 38 rfl ?_
  refine z_iadd d_Roo_addTelling_38 39 rfl ?_
  refine z_top (.int (nI n + 1)) (by rw [hn]) ?_
  refine z_putI d_Roo_addTelling_39 42 rfl fp_Roo_77_6 (Or.inl rfl) wc_3 (by simp) ?_
  refine z_hp wp_3_7 ?_
  refine z_aload_n d_Roo_addTelling_42 rfl 43 rfl ?_
  refine z_get d_Roo_addTelling_43 46 rfl fl_Roo_77_6 wc_3 rfl ?_
  refine z_iconst d_Roo_addTelling_46 1 (by decide) 47 rfl ?_
  refine z_isub d_Roo_addTelling_47 48 rfl ?_
  exact z_ireturn d_Roo_addTelling_48 (by simp [upd]) (rfl)
set_option maxHeartbeats 400000 in
theorem r_Lir_telling_6 {tk : Int32} {tp bt crf nt : Nat → Int32} {T PF PS : Nat → Option Nat} {C : Nat → Nat → Int32} {rc g pp bn sc : Nat → Int32} {b : zR} {u : zU} {tl : List zC} (h : 30 ≤ sc 0) : Ret 6 0 0 m_Lir_telling [.ref 0] (wld (tk, tp, bt, (T, C, rc, PF, PS, g, pp, bn, sc), b, crf, nt) u tl) (some (.int (-6))) (wld (tk, tp, bt, (T, C, rc, PF, PS, g, pp, bn, sc), b, rfu crf 6, nt) u tl) := by
  refine Ret.of (n := 1) (by decide) (rfl) rfl (fun X => ?_)
  refine z_aload_n d_Lir_telling_0 rfl 1 rfl ?_
  refine z_get d_Lir_telling_1 4 rfl fl_Lir_19_10 wc_0 rfl ?_
  refine z_get d_Lir_telling_4 7 rfl fl_Lir_53_6 wc_3 rfl ?_
  refine z_bipush d_Lir_telling_7 30 (by decide) 9 rfl ?_
  refine z_icmp_lt d_Lir_telling_9 19 12 (by decide) rfl (fun hzz => absurd hzz (Int32.not_lt.mpr h)) (fun h1 => ?_)
  refine z_aload_n d_Lir_telling_12 rfl 13 rfl ?_
  refine z_bipush d_Lir_telling_13 (-6) (by decide) 15 rfl ?_
  refine z_invv d_Lir_telling_15 18 rfl hm_Lir_refuse lk_Lir_37 im_Lir_refuse sl_Lir_Lir_refuse rfl wc_0 (r_Lir_refuse (-6) 6 (by decide) (by decide)) rfl rfl (by decide) rfl rfl (Nat.le_of_ble_eq_true rfl) ?_
  exact z_ireturn d_Lir_telling_18 (rfl) (rfl)
theorem r_Lir_telling_f {tk : Int32} {bt crf nt : Nat → Int32} {T PF PS : Nat → Option Nat} {C : Nat → Nat → Int32} {rc g pp bn sc : Nat → Int32} {b : zR} {u : zU} {tl : List zC} {p q : Nat} {z e c m y a : Int32} {n : Nat} (hn : sc 0 = nI n) (hn3 : n < 30) (rd : Nat → Int32) (hp : p ≤ 24) (hB : BTS bt p) (hok : (f1 bt p 0 (rd0 rd)).1 = false) : ∃ z' e' c' m' y' a' : Int32, Ret 6 0 0 m_Lir_telling [.ref 0] (wld (tk, tpf p q z e c m y a, bt, (T, C, rc, PF, PS, g, pp, bn, sc), b, crf, nt) u tl) (some (.int (-20 - nI (f1 bt p 0 (rd0 rd)).2.1))) (wld (tk, tpf (0) ((f1 bt p 0 (rd0 rd)).2.1) (z') (e') (c') (m') (y') (a'), bt, (T, C, rc, PF, PS, g, pp, bn, sc), b, crf, nt) u tl) := by
  obtain ⟨z', e', c', m', y', a', h5, hr⟩ := r_Tap_read (tk := tk) (bt := bt) (crf := crf) (nt := nt) (T := T) (PF := PF) (PS := PS) (C := C) (rc := rc) (g := g) (pp := pp) (bn := bn) (sc := sc) (b := b) (u := u) (tl := tl) (q := q) (z := z) (e := e) (c := c) (m := m) (y := y) (a := a) rd hp hB
  rw [hok] at hr
  refine ⟨z', e', c', m', y', a', ?_⟩
  refine Ret.of (n := 1) (by decide) rfl rfl (fun X => ?_)
  refine z_aload_n d_Lir_telling_0 rfl 1 rfl ?_
  refine z_get d_Lir_telling_1 4 rfl fl_Lir_19_10 wc_0 rfl ?_
  refine z_get d_Lir_telling_4 7 rfl fl_Lir_53_6 wc_3 rfl ?_
  refine z_bipush d_Lir_telling_7 30 (by decide) 9 rfl ?_
  refine z_icmp_lt d_Lir_telling_9 19 12 (by decide) rfl (fun h1 => ?_) (fun hzz => absurd (by rw [hn]; exact (show nI n < nI 30 from nI_lt hn3 (by decide))) hzz)
  refine z_aload_n d_Lir_telling_19 rfl 20 rfl ?_
  refine z_get d_Lir_telling_20 23 rfl fl_Lir_10_10 wc_0 rfl ?_
  refine z_invv d_Lir_telling_23 26 rfl hm_Tap_read lk_Lir_56 im_Tap_read sl_Tap_Tap_read rfl wc_1 (hr) rfl rfl (by decide) rfl rfl (Nat.le_of_ble_eq_true rfl) ?_
  refine z_istore_n d_Lir_telling_26 27 rfl (by decide) rfl ?_
  refine z_aload_n d_Lir_telling_27 rfl 28 rfl ?_
  refine z_get d_Lir_telling_28 31 rfl fl_Lir_10_10 wc_0 rfl ?_
  refine z_invvv d_Lir_telling_31 34 rfl hm_Tap_clear lk_Lir_60 im_Tap_clear sl_Tap_Tap_clear rfl wc_1 (r_Tap_clear) rfl rfl (by decide) rfl rfl (Nat.le_of_ble_eq_true rfl) ?_
  refine z_iload_n d_Lir_telling_34 rfl 35 rfl ?_
  refine z_if_eq d_Lir_telling_35 55 38 (by decide) rfl (fun h2 => ?_) (fun hzz => absurd rfl hzz)
  refine z_bipush d_Lir_telling_55 (-20) (by decide) 57 rfl ?_
  refine z_aload_n d_Lir_telling_57 rfl 58 rfl ?_
  refine z_get d_Lir_telling_58 61 rfl fl_Lir_10_10 wc_0 rfl ?_
  refine z_get d_Lir_telling_61 64 rfl fl_Lir_71_7 wt_1 rfl ?_
  refine z_isub d_Lir_telling_64 65 rfl ?_
  exact z_ireturn d_Lir_telling_65 (rfl) (rfl)
theorem r_Lir_telling_t {tk : Int32} {bt crf nt : Nat → Int32} {T PF PS : Nat → Option Nat} {C : Nat → Nat → Int32} {rc g pp bn sc : Nat → Int32} {b : zR} {u : zU} {tl : List zC} {p q : Nat} {z e c m y a : Int32} {n : Nat} (hn : sc 0 = nI n) (hn3 : n < 30) (rd : Nat → Int32) (hp : p ≤ 24) (hB : BTS bt p) (hok : (f1 bt p 0 (rd0 rd)).1 = true) (hak : (f1 bt p 0 (rd0 rd)).2.2 5 = 0 ∨ (f1 bt p 0 (rd0 rd)).2.2 5 = 1) : ∃ z' e' c' m' y' a' : Int32, (z' = (f1 bt p 0 (rd0 rd)).2.2 0 ∧ e' = (f1 bt p 0 (rd0 rd)).2.2 1 ∧ c' = (f1 bt p 0 (rd0 rd)).2.2 2 ∧ m' = (f1 bt p 0 (rd0 rd)).2.2 3 ∧ y' = (f1 bt p 0 (rd0 rd)).2.2 4 ∧ a' = (f1 bt p 0 (rd0 rd)).2.2 5) ∧ Ret 6 1 6 m_Lir_telling [.ref 0] (wld (tk, tpf p q z e c m y a, bt, (T, C, rc, PF, PS, g, pp, bn, sc), b, crf, nt) u tl) (some (.int (nI n))) (wld (tk, tpf (0) ((f1 bt p 0 (rd0 rd)).2.1) (z') (e') (c') (m') (y') (a'), bt, (va_up T n (some (51 + tl.length)), C, rc, PF, PS, g, pp, bn, upd sc 0 (nI n + 1)), b, crf, nt) u (tl ++ [tcell (tv6 z' e' c' m' y' a')])) := by
  obtain ⟨z', e', c', m', y', a', h5, hr⟩ := r_Tap_read (tk := tk) (bt := bt) (crf := crf) (nt := nt) (T := T) (PF := PF) (PS := PS) (C := C) (rc := rc) (g := g) (pp := pp) (bn := bn) (sc := sc) (b := b) (u := u) (tl := tl) (q := q) (z := z) (e := e) (c := c) (m := m) (y := y) (a := a) rd hp hB
  have h6 := h5 hok
  rw [hok] at hr
  have ha : a' = 0 ∨ a' = 1 := by rw [h6.2.2.2.2.2]; exact hak
  refine ⟨z', e', c', m', y', a', h6, ?_⟩
  refine Ret.of (n := 1) (by decide) rfl rfl (fun X => ?_)
  refine z_aload_n d_Lir_telling_0 rfl 1 rfl ?_
  refine z_get d_Lir_telling_1 4 rfl fl_Lir_19_10 wc_0 rfl ?_
  refine z_get d_Lir_telling_4 7 rfl fl_Lir_53_6 wc_3 rfl ?_
  refine z_bipush d_Lir_telling_7 30 (by decide) 9 rfl ?_
  refine z_icmp_lt d_Lir_telling_9 19 12 (by decide) rfl (fun h1 => ?_) (fun hzz => absurd (by rw [hn]; exact (show nI n < nI 30 from nI_lt hn3 (by decide))) hzz)
  refine z_aload_n d_Lir_telling_19 rfl 20 rfl ?_
  refine z_get d_Lir_telling_20 23 rfl fl_Lir_10_10 wc_0 rfl ?_
  refine z_invv d_Lir_telling_23 26 rfl hm_Tap_read lk_Lir_56 im_Tap_read sl_Tap_Tap_read rfl wc_1 (hr) rfl rfl (by decide) rfl rfl (Nat.le_of_ble_eq_true rfl) ?_
  refine z_istore_n d_Lir_telling_26 27 rfl (by decide) rfl ?_
  refine z_aload_n d_Lir_telling_27 rfl 28 rfl ?_
  refine z_get d_Lir_telling_28 31 rfl fl_Lir_10_10 wc_0 rfl ?_
  refine z_invvv d_Lir_telling_31 34 rfl hm_Tap_clear lk_Lir_60 im_Tap_clear sl_Tap_Tap_clear rfl wc_1 (r_Tap_clear) rfl rfl (by decide) rfl rfl (Nat.le_of_ble_eq_true rfl) ?_
  refine z_iload_n d_Lir_telling_34 rfl 35 rfl ?_
  refine z_if_eq d_Lir_telling_35 55 38 (by decide) rfl (fun hzz => absurd hzz (by decide)) (fun h2 => ?_)
  refine z_aload_n d_Lir_telling_38 rfl 39 rfl ?_
  refine z_get d_Lir_telling_39 42 rfl fl_Lir_19_10 wc_0 rfl ?_
  refine z_aload_n d_Lir_telling_42 rfl 43 rfl ?_
  refine z_get d_Lir_telling_43 46 rfl fl_Lir_10_10 wc_0 rfl ?_
  refine z_invv d_Lir_telling_46 49 rfl hm_Tap_newTelling lk_Lir_63 im_Tap_newTelling sl_Tap_Tap_newTelling rfl wc_1 (r_Tap_newTelling ha) rfl rfl (by decide) rfl rfl (Nat.le_of_ble_eq_true rfl) ?_
  refine z_invv d_Lir_telling_49 52 rfl hm_Roo_addTelling lk_Lir_67 im_Roo_addTelling sl_Roo_Roo_addTelling rfl wc_3 (r_Roo_addTelling (v := tv6 z' e' c' m' y' a') n tl.length hn hn3 (by simp)) rfl rfl (by decide) rfl rfl (Nat.le_of_ble_eq_true rfl) ?_
  refine z_goto d_Lir_telling_52 65 (by decide) ?_
  exact z_ireturn d_Lir_telling_65 (rfl) (rfl)
theorem shr_and (x : BitVec 64) (s : Nat) (hs : s ≤ 56) : (x >>> s) &&& 255#64 = (x.sshiftRight s) &&& 255#64 := by
  apply BitVec.eq_of_getLsbD_eq
  intro i hi
  rw [BitVec.getLsbD_and, BitVec.getLsbD_and, BitVec.getLsbD_ushiftRight, BitVec.getLsbD_sshiftRight]
  by_cases h8 : i < 8
  · have h1 : s + i < 64 := by omega
    simp [h1, hi, show ¬ 64 ≤ i by omega]
  · have : (255#64).getLsbD i = false := by
      rw [show (255#64) = BitVec.ofNat 64 (2 ^ 8 - 1) from rfl, BitVec.getLsbD_ofNat, Nat.testBit_two_pow_sub_one]
      simp [h8]
    rw [this, Bool.and_false, Bool.and_false]
theorem by_eq (b : Int64) {k : Nat} (hk : k < 8) : ((b.toUInt64 >>> ((8 * nI k).toInt64.toUInt64 &&& Int64.toUInt64 63)).toInt64 &&& 255).toInt32 = byM b k := by
  unfold byM
  congr 1
  apply Int64.toBitVec_inj.mp
  rcases (show k = 0 ∨ k = 1 ∨ k = 2 ∨ k = 3 ∨ k = 4 ∨ k = 5 ∨ k = 6 ∨ k = 7 by omega) with rfl | rfl | rfl | rfl | rfl | rfl | rfl | rfl
  · exact shr_and b.toBitVec 0 (by decide)
  · exact shr_and b.toBitVec 8 (by decide)
  · exact shr_and b.toBitVec 16 (by decide)
  · exact shr_and b.toBitVec 24 (by decide)
  · exact shr_and b.toBitVec 32 (by decide)
  · exact shr_and b.toBitVec 40 (by decide)
  · exact shr_and b.toBitVec 48 (by decide)
  · exact shr_and b.toBitVec 56 (by decide)
set_option maxHeartbeats 400000 in
theorem r_Tap_add {tk : Int32} {bt crf nt : Nat → Int32} {T PF PS : Nat → Option Nat} {C : Nat → Nat → Int32} {rc g pp bn sc : Nat → Int32} {b : zR} {u : zU} {tl : List zC} {p q : Nat} {z e c m y a : Int32} (k8 : Nat) (w8 : Int64) (hk8 : k8 ≤ 8) (hpk : p + k8 ≤ 24) : Ret 0 0 0 m_Tap_add [.ref 1, .int (nI k8), .long w8] (wld (tk, tpf p q z e c m y a, bt, (T, C, rc, PF, PS, g, pp, bn, sc), b, crf, nt) u tl) (none) (wld (tk, tpf (p + k8) q z e c m y a, fdT bt p w8 k8, (T, C, rc, PF, PS, g, pp, bn, sc), b, crf, nt) u tl) := by
  refine Ret.of (n := 1) (by decide) (trivial) rfl (fun X => ?_)
  refine z_iconst d_Tap_add_0 0 (by decide) 1 rfl ?_
  refine z_istore d_Tap_add_1 3 rfl (by decide) rfl ?_
  refine z_hp (hp1 := wld (tk, tpf (p + 0) q z e c m y a, fdT bt p w8 0, (T, C, rc, PF, PS, g, pp, bn, sc), b, crf, nt) u tl) (by rw [fdT_0]; rfl) ?_
  refine zloop (fun i => Z X m_Tap_add 0 0 0 (none) (wld (tk, tpf (p + k8) q z e c m y a, fdT bt p w8 k8, (T, C, rc, PF, PS, g, pp, bn, sc), b, crf, nt) u tl) 3 [some (.ref 1), some (.int (nI k8)), some (.long w8), none, some (.int (nI i))] [] (wld (tk, tpf (p + (i)) q z e c m y a, fdT bt p w8 (i), (T, C, rc, PF, PS, g, pp, bn, sc), b, crf, nt) u tl)) (k8) ?_ ?_ 0 (Nat.zero_le _)
  · refine z_iload d_Tap_add_3 rfl 5 rfl ?_
    refine z_iload_n d_Tap_add_5 rfl 6 rfl ?_
    refine z_icmp_ge d_Tap_add_6 65 9 (by decide) rfl (fun h1 => ?_) (fun hzz => absurd (Int32.le_refl _) hzz)
    exact z_return d_Tap_add_65 rfl rfl
  · intro i hi ih
    refine z_iload d_Tap_add_3 rfl 5 rfl ?_
    refine z_iload_n d_Tap_add_5 rfl 6 rfl ?_
    refine z_icmp_ge d_Tap_add_6 65 9 (by decide) rfl (fun hzz => absurd hzz (nI_ge hi (by omega))) (fun h2 => ?_)
    refine z_aload_n d_Tap_add_9 rfl 10 rfl ?_
    refine z_get d_Tap_add_10 13 rfl fl_Tap_15_7 wt_1 rfl ?_
    refine z_if_lt d_Tap_add_13 65 16 (by decide) rfl (fun hzz => absurd hzz (nI_pos (by omega))) (fun h3 => ?_)
    refine z_aload_n d_Tap_add_16 rfl 17 rfl ?_
    refine z_get d_Tap_add_17 20 rfl fl_Tap_15_7 wt_1 rfl ?_
    refine z_aload_n d_Tap_add_20 rfl 21 rfl ?_
    refine z_get d_Tap_add_21 24 rfl fl_Tap_9_7 wt_1 rfl ?_
    refine z_alenI d_Tap_add_24 25 rfl wc_2 24 (by decide) ?_
    refine z_icmp_ge d_Tap_add_25 65 28 (by decide) rfl (fun hzz => absurd hzz (show ¬ nI 24 ≤ nI (p + i) from nI_ge (by omega) (by decide))) (fun h4 => ?_)
    refine z_aload_n d_Tap_add_28 rfl 29 rfl ?_
    refine z_get d_Tap_add_29 32 rfl fl_Tap_9_7 wt_1 rfl ?_
    refine z_aload_n d_Tap_add_32 rfl 33 rfl ?_
    refine z_get d_Tap_add_33 36 rfl fl_Tap_15_7 wt_1 rfl ?_
    refine z_lload_n d_Tap_add_36 rfl 37 rfl ?_
    refine z_bipush d_Tap_add_37 8 (by decide) 39 rfl ?_
    refine z_iload d_Tap_add_39 rfl 41 rfl ?_
    refine z_imul d_Tap_add_41 42 rfl ?_
    refine z_lushr d_Tap_add_42 43 rfl ?_
    refine z_ldc2_w d_Tap_add_43 kn_Tap_19 46 rfl ?_
    refine z_land d_Tap_add_46 47 rfl ?_
    refine z_l2i d_Tap_add_47 48 rfl ?_
    refine z_top (.int (byM w8 i)) (by rw [by_eq w8 (by omega)]) ?_
    refine z_iastore d_Tap_add_48 (p + i) 49 rfl wc_2 rfl (by omega) (by decide) ?_
    refine z_hp (ws_2.trans (by rw [fdT_s])) ?_
    refine z_aload_n d_Tap_add_49 rfl 50 rfl ?_
    refine z_dup d_Tap_add_50 rfl 51 rfl ?_
    refine z_get d_Tap_add_51 54 rfl fl_Tap_15_7 wt_1 rfl ?_
    refine z_iconst d_Tap_add_54 1 (by decide) 55 rfl ?_
    refine z_iadd d_Tap_add_55 56 rfl ?_
    refine z_top (.int (nI (p + (i + 1)))) (by rw [show p + (i + 1) = (p + i) + 1 from rfl, nI_succ]) ?_
    refine z_putI d_Tap_add_56 59 rfl fp_Tap_15_7 (Or.inl rfl) wt_1 (by simp) ?_
    refine z_hp wpt_1 ?_
    refine z_iinc d_Tap_add_59 1 (by decide) 62 rfl rfl (by decide) rfl ?_
    refine z_goto d_Tap_add_62 3 (by decide) ?_
    exact z_L _ (by simp [List.set, nI_succ]) ih
set_option maxHeartbeats 400000 in
theorem r_Lir_feed_4 {tk : Int32} {bt crf nt : Nat → Int32} {T PF PS : Nat → Option Nat} {C : Nat → Nat → Int32} {rc g pp bn sc : Nat → Int32} {b : zR} {u : zU} {tl : List zC} {p q : Nat} {z e c m y a : Int32} (k8 : Int32) (w8 : Int64) (hA : k8 < 1) : Ret 6 0 0 m_Lir_feed [.ref 0, .int k8, .long w8] (wld (tk, tpf p q z e c m y a, bt, (T, C, rc, PF, PS, g, pp, bn, sc), b, crf, nt) u tl) (some (.int (-4))) (wld (tk, tpf p q z e c m y a, bt, (T, C, rc, PF, PS, g, pp, bn, sc), b, rfu crf 4, nt) u tl) := by
  refine Ret.of (n := 0) (by decide) (rfl) rfl (fun X => ?_)
  refine z_iload_n d_Lir_feed_0 rfl 1 rfl ?_
  refine z_iconst d_Lir_feed_1 1 (by decide) 2 rfl ?_
  refine z_icmp_ge d_Lir_feed_2 12 5 (by decide) rfl (fun hzz => absurd hzz (Int32.not_le.mpr hA)) (fun h1 => ?_)
  refine z_aload_n d_Lir_feed_5 rfl 6 rfl ?_
  refine z_bipush d_Lir_feed_6 (-4) (by decide) 8 rfl ?_
  refine z_invv d_Lir_feed_8 11 rfl hm_Lir_refuse lk_Lir_37 im_Lir_refuse sl_Lir_Lir_refuse rfl wc_0 (r_Lir_refuse (-4) 4 (by decide) (by decide)) rfl rfl (by decide) rfl rfl (Nat.le_of_ble_eq_true rfl) ?_
  exact z_ireturn d_Lir_feed_11 (rfl) (rfl)
set_option maxHeartbeats 400000 in
theorem r_Lir_feed_6 {tk : Int32} {bt crf nt : Nat → Int32} {T PF PS : Nat → Option Nat} {C : Nat → Nat → Int32} {rc g pp bn sc : Nat → Int32} {b : zR} {u : zU} {tl : List zC} {p q : Nat} {z e c m y a : Int32} (k8 : Int32) (w8 : Int64) (hA : ¬ k8 < 1) (hB : 8 < k8) : Ret 6 0 0 m_Lir_feed [.ref 0, .int k8, .long w8] (wld (tk, tpf p q z e c m y a, bt, (T, C, rc, PF, PS, g, pp, bn, sc), b, crf, nt) u tl) (some (.int (-6))) (wld (tk, tpf p q z e c m y a, bt, (T, C, rc, PF, PS, g, pp, bn, sc), b, rfu crf 6, nt) u tl) := by
  refine Ret.of (n := 0) (by decide) (rfl) rfl (fun X => ?_)
  refine z_iload_n d_Lir_feed_0 rfl 1 rfl ?_
  refine z_iconst d_Lir_feed_1 1 (by decide) 2 rfl ?_
  refine z_icmp_ge d_Lir_feed_2 12 5 (by decide) rfl (fun h1 => ?_) (fun hzz => absurd (Int32.not_lt.mp hA) hzz)
  refine z_iload_n d_Lir_feed_12 rfl 13 rfl ?_
  refine z_bipush d_Lir_feed_13 8 (by decide) 15 rfl ?_
  refine z_icmp_gt d_Lir_feed_15 29 18 (by decide) rfl (fun h2 => ?_) (fun hzz => absurd hB hzz)
  refine z_aload_n d_Lir_feed_29 rfl 30 rfl ?_
  refine z_bipush d_Lir_feed_30 (-6) (by decide) 32 rfl ?_
  refine z_invv d_Lir_feed_32 35 rfl hm_Lir_refuse lk_Lir_37 im_Lir_refuse sl_Lir_Lir_refuse rfl wc_0 (r_Lir_refuse (-6) 6 (by decide) (by decide)) rfl rfl (by decide) rfl rfl (Nat.le_of_ble_eq_true rfl) ?_
  exact z_ireturn d_Lir_feed_35 (rfl) (rfl)
set_option maxHeartbeats 400000 in
theorem r_Lir_feed_7 {tk : Int32} {bt crf nt : Nat → Int32} {T PF PS : Nat → Option Nat} {C : Nat → Nat → Int32} {rc g pp bn sc : Nat → Int32} {b : zR} {u : zU} {tl : List zC} {p q : Nat} {z e c m y a : Int32} (k8 : Int32) (w8 : Int64) (hA : ¬ k8 < 1) (hB : ¬ 8 < k8) (hC : ¬ k8 ≤ 24 - nI p) : Ret 6 0 0 m_Lir_feed [.ref 0, .int k8, .long w8] (wld (tk, tpf p q z e c m y a, bt, (T, C, rc, PF, PS, g, pp, bn, sc), b, crf, nt) u tl) (some (.int (-6))) (wld (tk, tpf p q z e c m y a, bt, (T, C, rc, PF, PS, g, pp, bn, sc), b, rfu crf 6, nt) u tl) := by
  refine Ret.of (n := 0) (by decide) (rfl) rfl (fun X => ?_)
  refine z_iload_n d_Lir_feed_0 rfl 1 rfl ?_
  refine z_iconst d_Lir_feed_1 1 (by decide) 2 rfl ?_
  refine z_icmp_ge d_Lir_feed_2 12 5 (by decide) rfl (fun h1 => ?_) (fun hzz => absurd (Int32.not_lt.mp hA) hzz)
  refine z_iload_n d_Lir_feed_12 rfl 13 rfl ?_
  refine z_bipush d_Lir_feed_13 8 (by decide) 15 rfl ?_
  refine z_icmp_gt d_Lir_feed_15 29 18 (by decide) rfl (fun hzz => absurd hzz hB) (fun h2 => ?_)
  refine z_iload_n d_Lir_feed_18 rfl 19 rfl ?_
  refine z_aload_n d_Lir_feed_19 rfl 20 rfl ?_
  refine z_get d_Lir_feed_20 23 rfl fl_Lir_10_10 wc_0 rfl ?_
  refine z_invv d_Lir_feed_23 26 rfl hm_Tap_roomLeft lk_Lir_41 im_Tap_roomLeft sl_Tap_Tap_roomLeft rfl wc_1 (r_Tap_roomLeft) rfl rfl (by decide) rfl rfl (Nat.le_of_ble_eq_true rfl) ?_
  refine z_icmp_le d_Lir_feed_26 36 29 (by decide) rfl (fun hzz => absurd hzz hC) (fun h3 => ?_)
  refine z_aload_n d_Lir_feed_29 rfl 30 rfl ?_
  refine z_bipush d_Lir_feed_30 (-6) (by decide) 32 rfl ?_
  refine z_invv d_Lir_feed_32 35 rfl hm_Lir_refuse lk_Lir_37 im_Lir_refuse sl_Lir_Lir_refuse rfl wc_0 (r_Lir_refuse (-6) 6 (by decide) (by decide)) rfl rfl (by decide) rfl rfl (Nat.le_of_ble_eq_true rfl) ?_
  exact z_ireturn d_Lir_feed_35 (rfl) (rfl)
theorem sub24 {p : Nat} (h : p ≤ 24) : (24 : Int32) - nI p = nI (24 - p) := by
  rw [show (24 : Int32) = nI (24 - p + p) by rw [show 24 - p + p = 24 by omega]; rfl, ← nI_add, Int32.add_sub_cancel]
set_option maxHeartbeats 400000 in
theorem r_Lir_feed_0 {tk : Int32} {bt crf nt : Nat → Int32} {T PF PS : Nat → Option Nat} {C : Nat → Nat → Int32} {rc g pp bn sc : Nat → Int32} {b : zR} {u : zU} {tl : List zC} {p q : Nat} {z e c m y a : Int32} (k8 : Nat) (w8 : Int64) (hk1 : 1 ≤ k8) (hk8 : k8 ≤ 8) (hpk : p + k8 ≤ 24) : Ret 6 0 0 m_Lir_feed [.ref 0, .int (nI k8), .long w8] (wld (tk, tpf p q z e c m y a, bt, (T, C, rc, PF, PS, g, pp, bn, sc), b, crf, nt) u tl) (some (.int (nI (p + k8)))) (wld (tk, tpf (p + k8) q z e c m y a, fdT bt p w8 k8, (T, C, rc, PF, PS, g, pp, bn, sc), b, crf, nt) u tl) := by
  refine Ret.of (n := 0) (by decide) (rfl) rfl (fun X => ?_)
  refine z_iload_n d_Lir_feed_0 rfl 1 rfl ?_
  refine z_iconst d_Lir_feed_1 1 (by decide) 2 rfl ?_
  refine z_icmp_ge d_Lir_feed_2 12 5 (by decide) rfl (fun h1 => ?_) (fun hzz => absurd (show nI 1 ≤ nI k8 from nI_le hk1 (by omega)) hzz)
  refine z_iload_n d_Lir_feed_12 rfl 13 rfl ?_
  refine z_bipush d_Lir_feed_13 8 (by decide) 15 rfl ?_
  refine z_icmp_gt d_Lir_feed_15 29 18 (by decide) rfl (fun hzz => absurd hzz (show ¬ nI 8 < nI k8 from nI_nlt hk8 (by decide))) (fun h2 => ?_)
  refine z_iload_n d_Lir_feed_18 rfl 19 rfl ?_
  refine z_aload_n d_Lir_feed_19 rfl 20 rfl ?_
  refine z_get d_Lir_feed_20 23 rfl fl_Lir_10_10 wc_0 rfl ?_
  refine z_invv d_Lir_feed_23 26 rfl hm_Tap_roomLeft lk_Lir_41 im_Tap_roomLeft sl_Tap_Tap_roomLeft rfl wc_1 (r_Tap_roomLeft) rfl rfl (by decide) rfl rfl (Nat.le_of_ble_eq_true rfl) ?_
  refine z_icmp_le d_Lir_feed_26 36 29 (by decide) rfl (fun h3 => ?_) (fun hzz => absurd (by rw [sub24 (by omega)]; exact nI_le (by omega) (by omega)) hzz)
  refine z_aload_n d_Lir_feed_36 rfl 37 rfl ?_
  refine z_get d_Lir_feed_37 40 rfl fl_Lir_10_10 wc_0 rfl ?_
  refine z_iload_n d_Lir_feed_40 rfl 41 rfl ?_
  refine z_lload_n d_Lir_feed_41 rfl 42 rfl ?_
  refine z_invvv d_Lir_feed_42 45 rfl hm_Tap_add lk_Lir_45 im_Tap_add sl_Tap_Tap_add rfl wc_1 (r_Tap_add k8 w8 hk8 hpk) rfl rfl (by decide) rfl rfl (Nat.le_of_ble_eq_true rfl) ?_
  refine z_aload_n d_Lir_feed_45 rfl 46 rfl ?_
  refine z_get d_Lir_feed_46 49 rfl fl_Lir_10_10 wc_0 rfl ?_
  refine z_get d_Lir_feed_49 52 rfl fl_Lir_49_7 wt_1 rfl ?_
  exact z_ireturn d_Lir_feed_52 (rfl) (rfl)
