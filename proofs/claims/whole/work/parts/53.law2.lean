/-! THE LAW'S LOOP, ITS START -/
set_option maxHeartbeats 1000000 in
theorem lw_switch {X : zS} {i kc ks : Nat} (hi : i + 5 ≤ X.1) (hL : X.1 ≤ 320) {hp : List zC} (hI : INV hp) (nx : lwN2 X i kc ks) : ∃ hp', Z X m_LLL_law 41 (kc + 1) (ks + 6) (some (.int 1)) hp' 32 (lwL i) [.int (X.2 i &&& 63)] hp := by
  obtain ⟨j, hj, e⟩ := pk_andE (X.2 i) (m := 63) 6 (by decide)
  rw [e]
  by_cases h0 : j = 0
  · subst h0
    obtain ⟨hp', hz⟩ := lw_feed hi hL hI nx
    exact ⟨hp', z_tabIn (off := 156) d_LLL_law_32 188 (by decide) (by decide) (by decide) (by decide) hz⟩
  by_cases h1 : j = 1
  · subst h1
    obtain ⟨hp', hz⟩ := lw_telling hi hL hI nx
    exact ⟨hp', z_tabIn (off := 219) d_LLL_law_32 251 (by decide) (by decide) (by decide) (by decide) hz⟩
  by_cases h2 : j = 2
  · subst h2
    obtain ⟨hp', hz⟩ := lw_tellingOf hi hL hI nx
    exact ⟨hp', z_tabIn (off := 232) d_LLL_law_32 264 (by decide) (by decide) (by decide) (by decide) hz⟩
  by_cases h3 : j = 3
  · subst h3
    obtain ⟨hp', hz⟩ := lw_kind hi hL hI nx
    exact ⟨hp', z_tabIn (off := 265) d_LLL_law_32 297 (by decide) (by decide) (by decide) (by decide) hz⟩
  by_cases h4 : j = 4
  · subst h4
    obtain ⟨hp', hz⟩ := lw_weight hi hL hI nx
    exact ⟨hp', z_tabIn (off := 288) d_LLL_law_32 320 (by decide) (by decide) (by decide) (by decide) hz⟩
  by_cases h5 : j = 5
  · subst h5
    obtain ⟨hp', hz⟩ := lw_law hi hL hI nx
    exact ⟨hp', z_tabIn (off := 311) d_LLL_law_32 343 (by decide) (by decide) (by decide) (by decide) hz⟩
  by_cases h6 : j = 6
  · subst h6
    obtain ⟨hp', hz⟩ := lw_right hi hL hI nx
    exact ⟨hp', z_tabIn (off := 354) d_LLL_law_32 386 (by decide) (by decide) (by decide) (by decide) hz⟩
  by_cases h7 : j = 7
  · subst h7
    obtain ⟨hp', hz⟩ := lw_growth hi hL hI nx
    exact ⟨hp', z_tabIn (off := 393) d_LLL_law_32 425 (by decide) (by decide) (by decide) (by decide) hz⟩
  by_cases h8 : j = 8
  · subst h8
    obtain ⟨hp', hz⟩ := lw_put hi hL hI nx
    exact ⟨hp', z_tabIn (off := 426) d_LLL_law_32 458 (by decide) (by decide) (by decide) (by decide) hz⟩
  by_cases h9 : j = 9
  · subst h9
    obtain ⟨hp', hz⟩ := lw_fits hi hL hI nx
    exact ⟨hp', z_tabIn (off := 459) d_LLL_law_32 491 (by decide) (by decide) (by decide) (by decide) hz⟩
  by_cases h10 : j = 10
  · subst h10
    obtain ⟨hp', hz⟩ := lw_share hi hL hI nx
    exact ⟨hp', z_tabIn (off := 492) d_LLL_law_32 524 (by decide) (by decide) (by decide) (by decide) hz⟩
  by_cases h11 : j = 11
  · subst h11
    obtain ⟨hp', hz⟩ := lw_only hi hL hI nx
    exact ⟨hp', z_tabIn (off := 525) d_LLL_law_32 557 (by decide) (by decide) (by decide) (by decide) hz⟩
  by_cases h12 : j = 12
  · subst h12
    obtain ⟨hp', hz⟩ := lw_cover hi hL hI nx
    exact ⟨hp', z_tabIn (off := 548) d_LLL_law_32 580 (by decide) (by decide) (by decide) (by decide) hz⟩
  by_cases h13 : j = 13
  · subst h13
    obtain ⟨hp', hz⟩ := lw_half hi hL hI nx
    exact ⟨hp', z_tabIn (off := 561) d_LLL_law_32 593 (by decide) (by decide) (by decide) (by decide) hz⟩
  by_cases h14 : j = 14
  · subst h14
    obtain ⟨hp', hz⟩ := lw_sorts hi hL hI nx
    exact ⟨hp', z_tabIn (off := 584) d_LLL_law_32 616 (by decide) (by decide) (by decide) (by decide) hz⟩
  by_cases h15 : j = 15
  · subst h15
    obtain ⟨hp', hz⟩ := lw_alike hi hL hI nx
    exact ⟨hp', z_tabIn (off := 607) d_LLL_law_32 639 (by decide) (by decide) (by decide) (by decide) hz⟩
  by_cases h16 : j = 16
  · subst h16
    obtain ⟨hp', hz⟩ := lw_together hi hL hI nx
    exact ⟨hp', z_tabIn (off := 630) d_LLL_law_32 662 (by decide) (by decide) (by decide) (by decide) hz⟩
  by_cases h17 : j = 17
  · subst h17
    obtain ⟨hp', hz⟩ := lw_twice hi hL hI nx
    exact ⟨hp', z_tabIn (off := 663) d_LLL_law_32 695 (by decide) (by decide) (by decide) (by decide) hz⟩
  by_cases h18 : j = 18
  · subst h18
    obtain ⟨hp', hz⟩ := lw_grows hi hL hI nx
    exact ⟨hp', z_tabIn (off := 696) d_LLL_law_32 728 (by decide) (by decide) (by decide) (by decide) hz⟩
  by_cases h19 : j = 19
  · subst h19
    obtain ⟨hp', hz⟩ := lw_people hi hL hI nx
    exact ⟨hp', z_tabIn (off := 729) d_LLL_law_32 761 (by decide) (by decide) (by decide) (by decide) hz⟩
  by_cases h20 : j = 20
  · subst h20
    obtain ⟨hp', hz⟩ := lw_strokes hi hL hI nx
    exact ⟨hp', z_tabIn (off := 762) d_LLL_law_32 794 (by decide) (by decide) (by decide) (by decide) hz⟩
  by_cases h21 : j = 21
  · subst h21
    obtain ⟨hp', hz⟩ := lw_reach hi hL hI nx
    exact ⟨hp', z_tabIn (off := 785) d_LLL_law_32 817 (by decide) (by decide) (by decide) (by decide) hz⟩
  by_cases h22 : j = 22
  · subst h22
    obtain ⟨hp', hz⟩ := lw_should hi hL hI nx
    exact ⟨hp', z_tabIn (off := 818) d_LLL_law_32 850 (by decide) (by decide) (by decide) (by decide) hz⟩
  by_cases h23 : j = 23
  · subst h23
    obtain ⟨hp', hz⟩ := lw_seen hi hL hI nx
    exact ⟨hp', z_tabIn (off := 841) d_LLL_law_32 873 (by decide) (by decide) (by decide) (by decide) hz⟩
  by_cases h24 : j = 24
  · subst h24
    obtain ⟨hp', hz⟩ := lw_beyond hi hL hI nx
    exact ⟨hp', z_tabIn (off := 864) d_LLL_law_32 896 (by decide) (by decide) (by decide) (by decide) hz⟩
  by_cases h25 : j = 25
  · subst h25
    obtain ⟨hp', hz⟩ := lw_leads hi hL hI nx
    exact ⟨hp', z_tabIn (off := 897) d_LLL_law_32 929 (by decide) (by decide) (by decide) (by decide) hz⟩
  by_cases h26 : j = 26
  · subst h26
    obtain ⟨hp', hz⟩ := lw_pictures hi hL hI nx
    exact ⟨hp', z_tabIn (off := 910) d_LLL_law_32 942 (by decide) (by decide) (by decide) (by decide) hz⟩
  by_cases h27 : j = 27
  · subst h27
    obtain ⟨hp', hz⟩ := lw_bench hi hL hI nx
    exact ⟨hp', z_tabIn (off := 933) d_LLL_law_32 965 (by decide) (by decide) (by decide) (by decide) hz⟩
  by_cases h28 : j = 28
  · subst h28
    obtain ⟨hp', hz⟩ := lw_lines hi hL hI nx
    exact ⟨hp', z_tabIn (off := 986) d_LLL_law_32 1018 (by decide) (by decide) (by decide) (by decide) hz⟩
  by_cases h29 : j = 29
  · subst h29
    obtain ⟨hp', hz⟩ := lw_misses hi hL hI nx
    exact ⟨hp', z_tabIn (off := 1009) d_LLL_law_32 1041 (by decide) (by decide) (by decide) (by decide) hz⟩
  by_cases h30 : j = 30
  · subst h30
    obtain ⟨hp', hz⟩ := lw_barred hi hL hI nx
    exact ⟨hp', z_tabIn (off := 1032) d_LLL_law_32 1064 (by decide) (by decide) (by decide) (by decide) hz⟩
  by_cases h31 : j = 31
  · subst h31
    obtain ⟨hp', hz⟩ := lw_glasses hi hL hI nx
    exact ⟨hp', z_tabIn (off := 1055) d_LLL_law_32 1087 (by decide) (by decide) (by decide) (by decide) hz⟩
  by_cases h32 : j = 32
  · subst h32
    obtain ⟨hp', hz⟩ := lw_image hi hL hI nx
    exact ⟨hp', z_tabIn (off := 1088) d_LLL_law_32 1120 (by decide) (by decide) (by decide) (by decide) hz⟩
  by_cases h33 : j = 33
  · subst h33
    obtain ⟨hp', hz⟩ := lw_on hi hL hI nx
    exact ⟨hp', z_tabIn (off := 1101) d_LLL_law_32 1133 (by decide) (by decide) (by decide) (by decide) hz⟩
  by_cases h34 : j = 34
  · subst h34
    obtain ⟨hp', hz⟩ := lw_count hi hL hI nx
    exact ⟨hp', z_tabIn (off := 1114) d_LLL_law_32 1146 (by decide) (by decide) (by decide) (by decide) hz⟩
  obtain ⟨hp', hz⟩ := nx hp hI
  exact ⟨hp', z_tabOut d_LLL_law_32 1169 (Or.inr (by rw [nI_toInt (by omega)]; omega)) (by decide) (Z.mono (by omega) (by omega) hz)⟩
theorem lw_end {X : zS} {i kc ks : Nat} (hL : X.1 ≤ 320) (hi : i ≤ 400) (hx : X.1 < i + 5) (hp : List zC) : Z X m_LLL_law 41 kc ks (some (.int 1)) hp 18 (lwL i) [] hp := by
  refine z_iload_n d_LLL_law_18 rfl 19 rfl ?_
  refine z_aload_nX d_LLL_law_19 rfl 20 rfl ?_
  refine z_slen d_LLL_law_20 21 rfl ?_
  refine z_iconst d_LLL_law_21 5 (by decide) 22 rfl ?_
  refine z_isub d_LLL_law_22 23 rfl ?_
  refine z_icmp_gt d_LLL_law_23 1175 26 (by decide) rfl (fun _ => ?_) (fun hzz => absurd (Int32.lt_iff_toInt_lt.mpr ?_) hzz)
  · refine z_iconst d_LLL_law_1175 1 (by decide) 1176 rfl ?_
    exact z_ireturn d_LLL_law_1176 rfl rfl
  · rw [show (5 : Int32) = nI 5 from rfl, pk_sub_toInt (by omega) (by decide), nI_toInt (by omega)]
    omega
theorem lw_loop {X : zS} (hL : X.1 ≤ 320) : ∀ (k i : Nat) (hp : List zC), INV hp → i ≤ 400 → X.1 < i + 5 * k + 5 → ∃ hp', Z X m_LLL_law 41 k (6 * k) (some (.int 1)) hp' 18 (lwL i) [] hp
  | 0, i, hp, hI, hi, hx => ⟨hp, lw_end hL hi (by omega) hp⟩
  | k + 1, i, hp, hI, hi, hx => by
    by_cases h5 : i + 5 ≤ X.1
    · have nx : lwN2 X i k (6 * k) := fun hp2 hI2 => by
        obtain ⟨hp', hz⟩ := lw_loop hL k (i + 5) hp2 hI2 (by omega) (by omega)
        refine ⟨hp', ?_⟩
        refine z_iinc d_LLL_law_1169 5 (by decide) 1172 rfl rfl (by decide) rfl ?_
        refine z_goto d_LLL_law_1172 18 (by decide) ?_
        exact z_L (lwL (i + 5)) (by show ([some (Value.retAddr 0), some (Value.ref 0), some (Value.ref 45), some (Value.int (nI i + nI 5))] : List (Option Value)) = _; rw [nI_add]) hz
      obtain ⟨hp', hz⟩ := lw_switch h5 hL hI nx
      refine ⟨hp', ?_⟩
      refine z_iload_n d_LLL_law_18 rfl 19 rfl ?_
      refine z_aload_nX d_LLL_law_19 rfl 20 rfl ?_
      refine z_slen d_LLL_law_20 21 rfl ?_
      refine z_iconst d_LLL_law_21 5 (by decide) 22 rfl ?_
      refine z_isub d_LLL_law_22 23 rfl ?_
      refine z_icmp_gt d_LLL_law_23 1175 26 (by decide) rfl (fun hzz => absurd hzz ?_) (fun _ => ?_)
      · rw [show (5 : Int32) = nI 5 from rfl, pk_sub (by omega)]
        exact nI_nlt (by omega) (by omega)
      · refine z_aload_nX d_LLL_law_26 rfl 27 rfl ?_
        refine z_iload_n d_LLL_law_27 rfl 28 rfl ?_
        refine z_sld d_LLL_law_28 i 29 rfl rfl (by omega) (by omega) ?_
        refine z_bipush d_LLL_law_29 63 (by decide) 31 rfl ?_
        refine z_iand d_LLL_law_31 32 rfl ?_
        exact hz
    · exact ⟨hp, lw_end hL hi (by omega) hp⟩
def zA0 : List zC := [.inr (.inr (10, [.ref 1, .ref 3, .ref 23, .ref 43, .ref 44, .int 0])), .inr (.inr (7, [.ref 2, .int 0, .int 0, .int 0, .int 0, .int 0, .int 0, .int 0, .int 0])), .inl (24, fun _ => 0), .inr (.inr (6, [.ref 4, .ref 5, .ref 18, .ref 19, .ref 20, .ref 21, .ref 22, .int 0, .int 0, .int 0, .int 0])), .inr (.inl (1, 30, fun _ => none)), .inr (.inl (0, 6, lrow 6)), .inr (.inr (4, [.ref 7, .int 10])), .inl (7, cnd0), .inr (.inr (4, [.ref 9, .int 10])), .inl (7, cnd0), .inr (.inr (4, [.ref 11, .int 10])), .inl (7, cnd0), .inr (.inr (4, [.ref 13, .int 10])), .inl (7, cnd0), .inr (.inr (4, [.ref 15, .int 10])), .inl (7, cnd0), .inr (.inr (4, [.ref 17, .int 10])), .inl (7, cnd0), .inr (.inl (1, 10, fun _ => none)), .inr (.inl (1, 10, fun _ => none)), .inl (2, fun _ => 0), .inl (10, fun _ => 0), .inr (.inr (0, [.int 0, .int 0, .int 0, .int 0])), .inr (.inr (6, [.ref 24, .ref 25, .ref 38, .ref 39, .ref 40, .ref 41, .ref 42, .int 0, .int 0, .int 0, .int 0])), .inr (.inl (1, 30, fun _ => none)), .inr (.inl (0, 6, lrow 26)), .inr (.inr (4, [.ref 27, .int 10])), .inl (7, cnd0), .inr (.inr (4, [.ref 29, .int 10])), .inl (7, cnd0), .inr (.inr (4, [.ref 31, .int 10])), .inl (7, cnd0), .inr (.inr (4, [.ref 33, .int 10])), .inl (7, cnd0), .inr (.inr (4, [.ref 35, .int 10])), .inl (7, cnd0), .inr (.inr (4, [.ref 37, .int 10])), .inl (7, cnd0), .inr (.inl (1, 10, fun _ => none)), .inr (.inl (1, 10, fun _ => none)), .inl (2, fun _ => 0), .inl (10, fun _ => 0), .inr (.inr (0, [.int 0, .int 0, .int 0, .int 0])), .inl (7, fun _ => 0), .inl (30, fun _ => 0)]
abbrev zR0 : zR := (fun _ => none, fun _ => cnd0, fun _ => 10, fun _ => none, fun _ => none, fun _ => 0, fun _ => 0, fun _ => 0, fun _ => 0)
theorem sI_0 : sI 6 0 = 0 ∧ sI 6 1 = 0 ∧ sI 6 2 = 0 ∧ sI 6 3 = 0 ∧ sI 6 267 = 0 := by decide +kernel
theorem sI_g : ∀ w, w < 2 → sI 6 (4 + w) = 0 := by decide +kernel
theorem sI_C : ∀ l, l < 6 → ∀ k, k < 7 → cnd0 k = sI 6 (186 + 8 * l + k) := by decide +kernel
theorem sI_r : ∀ l, l < 6 → sI 6 (186 + 8 * l + 7) = 10 := by decide +kernel
theorem sI_p : ∀ r, r < 10 → sI 6 (254 + r) = 0 := by decide +kernel
theorem sI_b : ∀ j, j < 4 → sI 6 (264 + j) = 0 := by decide +kernel
theorem RR0 : RR (fun _ => none) (fun _ => none) (fun _ => none) (fun _ => cnd0) (fun _ => 10) (fun _ => 0) (fun _ => 0) (fun _ => 0) (fun _ => 0) (sI 6) [] 0 0 := by
  have no : ∀ t, ¬ t < 0 := Nat.not_lt_zero
  exact RR.mk sI_0.1 (by decide) rfl sI_0.2.1 (by decide) rfl sI_0.2.2.2.1.symm sI_0.2.2.1.symm (Or.inl sI_0.2.2.1) (fun w hw => (sI_g w hw).symm) (fun l k hl hk => sI_C l hl k hk) (fun l hl => (sI_r l hl).symm) (fun r hr => (sI_p r hr).symm) (fun j hj => (sI_b j hj).symm)
    ⟨fun i hi => absurd hi (no i), fun i _ _ => rfl⟩ (fun k hk => absurd hk (no k)) (fun k hk => absurd hk (no k)) (fun k _ _ => ⟨rfl, rfl⟩)
    (RGS.mk (fun t ht => absurd ht (no t)) (fun t ht => absurd ht (no t)) (fun t ht => absurd ht (no t)) (fun t ht => absurd ht (no t)) (fun t ht => absurd ht (no t)) (fun w hw => ⟨0, sI_g w hw, by decide⟩) (fun l hl => ⟨10, sI_r l hl, by decide⟩) (fun r hr => ⟨0, sI_p r hr, by decide⟩) (fun j hj => ⟨0, sI_b j (by omega), by decide⟩) ⟨0, sI_0.2.2.2.2, by decide⟩)
theorem INV0 : INV (wld (0, tpf 0 0 0 0 0 0 0 0, fun _ => 0, zR0, zR0, fun _ => 0, fun _ => 0) (fun _ => 0, sI 6, fun _ => 0, fun _ => 0, fun _ => 0, fun _ => 0) []) :=
  INV.mk RR0 ⟨Or.inl rfl, rfl, rfl, by decide, fun j hj => absurd hj (Nat.not_lt_zero j)⟩ rfl
theorem hp0_eq : zA0 ++ [.inr (.inr (11, [.ref 46, .ref 47, .ref 48, .int 0, .ref 49, .ref 50, .int 0, .int 0])), .inl (7, fun _ => 0), .inl (268, sI 6), .inl (268, fun _ => 0), .inl (24, fun _ => 0), .inl (6, fun _ => 0)] = wld (0, tpf 0 0 0 0 0 0 0 0, fun _ => 0, zR0, zR0, fun _ => 0, fun _ => 0) (fun _ => 0, sI 6, fun _ => 0, fun _ => 0, fun _ => 0, fun _ => 0) [] := rfl
set_option maxHeartbeats 1000000 in
theorem lw_all {X : zS} (hL : X.1 ≤ 320) : ∃ hp', Z X m_LLL_law 41 116 1321 (some (.int 1)) hp' 0 [some (.retAddr 0), none, none, none] [] [] := by
  obtain ⟨hp', hz⟩ := lw_loop hL 65 0 _ INV0 (by decide) (by omega)
  refine ⟨hp', ?_⟩
  refine z_new (kc1 := 115) (ks1 := 1315) d_LLL_law_0 3 0 _ rfl nw_LLL_7 (fun _ _ => rfl) rfl rfl rfl rfl ?_
  refine z_dup d_LLL_law_3 rfl 4 rfl ?_
  refine z_invI (kc1 := 71) (ks1 := 971) d_LLL_law_4 7 rfl hm_Lir_init lk_LLL_9 im_Lir_init rfl rfl (r_Lir_init (A := []) (n := 0) rfl) rfl rfl (by decide) rfl rfl (Nat.le_of_ble_eq_true rfl) ?_
  refine z_hp (hp1 := zA0) rfl ?_
  refine z_astore_n d_LLL_law_7 8 rfl (by decide) rfl ?_
  refine z_new (kc1 := 70) (ks1 := 963) d_LLL_law_8 11 45 _ rfl nw_LLL_10 (fun _ _ => rfl) rfl rfl rfl rfl ?_
  refine z_dup d_LLL_law_11 rfl 12 rfl ?_
  refine z_invI (kc1 := 65) (ks1 := 390) d_LLL_law_12 15 rfl hm_Mod_init lk_LLL_12 im_Mod_init rfl rfl (r_Mod_init (A := zA0) (n := 45) rfl) rfl rfl (by decide) rfl rfl (Nat.le_of_ble_eq_true rfl) ?_
  refine z_astore_n d_LLL_law_15 16 rfl (by decide) rfl ?_
  refine z_iconst d_LLL_law_16 0 (by decide) 17 rfl ?_
  refine z_istore_n d_LLL_law_17 18 rfl (by decide) rfl ?_
  refine z_hp hp0_eq ?_
  exact z_L (lwL 0) rfl hz
