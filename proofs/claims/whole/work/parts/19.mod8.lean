theorem inR_nI {j n : Nat} (h : j < n) (hn : n < 2 ^ 31) : inR (nI j) (nI n) = true := decide_eq_true ⟨nI_pos' (by omega), nI_lt h hn⟩
theorem gsh {r : Nat} (hr : r ≤ 10) : (1 : Int32) <<< (nI r &&& 31) = nI (2 ^ r) := by
  rcases (show r = 0 ∨ r = 1 ∨ r = 2 ∨ r = 3 ∨ r = 4 ∨ r = 5 ∨ r = 6 ∨ r = 7 ∨ r = 8 ∨ r = 9 ∨ r = 10 by omega) with rfl | rfl | rfl | rfl | rfl | rfl | rfl | rfl | rfl | rfl | rfl <;> decide
set_option maxHeartbeats 400000 in
theorem r_Mod_glasses_1 {K : zKK} {rf s im mt rd sc : Nat → Int32} {tl : List zC} (l m : Int32) (hl : inR l 6 = false) : Ret 2 0 0 m_Mod_glasses [.ref 45, .int l, .int m] (wld K (rf, s, im, mt, rd, sc) tl) (some (.int (-1))) (wld K (rfu rf 1, s, im, mt, rd, sc) tl) := by
  refine Ret.of (n := 8) (by decide) (rfl) rfl (fun X => ?_)
  refine z_iload_n d_Mod_glasses_0 rfl 1 rfl ?_
  refine z_invs d_Mod_glasses_1 4 rfl hm_Mod_isLaw lk_Mod_79 st_Mod_isLaw (r_Mod_isLaw _) rfl rfl (by decide) rfl rfl (Nat.le_of_ble_eq_true rfl) ?_
  refine z_if_eq d_Mod_glasses_4 16 7 (by decide) rfl (fun h1 => ?_) (fun h => absurd (by rw [hl]; rfl) h)
  refine z_iconst d_Mod_glasses_16 (-1) (by decide) 17 rfl ?_
  refine z_istore_n d_Mod_glasses_17 18 rfl (by decide) rfl ?_
  refine z_iload_n d_Mod_glasses_18 rfl 19 rfl ?_
  refine z_if_eq d_Mod_glasses_19 28 22 (by decide) rfl (fun h => absurd h (by decide)) (fun h2 => ?_)
  refine z_aload_n d_Mod_glasses_22 rfl 23 rfl ?_
  refine z_iload_n d_Mod_glasses_23 rfl 24 rfl ?_
  refine z_invv d_Mod_glasses_24 27 rfl hm_Mod_refuse lk_Mod_29 im_Mod_refuse sl_Mod_Mod_refuse rfl wm_45 (r_Mod_refuse (-1) 1 (by decide) (by decide)) rfl rfl (by decide) rfl rfl (Nat.le_of_ble_eq_true rfl) ?_
  exact z_ireturn d_Mod_glasses_27 (rfl) (rfl)
set_option maxHeartbeats 400000 in
theorem r_Mod_glasses_4 {K : zKK} {rf s im mt rd sc : Nat → Int32} {tl : List zC} (l m : Int32) (hl : inR l 6 = true) (hw : m < 1) : Ret 2 0 0 m_Mod_glasses [.ref 45, .int l, .int m] (wld K (rf, s, im, mt, rd, sc) tl) (some (.int (-4))) (wld K (rfu rf 4, s, im, mt, rd, sc) tl) := by
  refine Ret.of (n := 8) (by decide) (rfl) rfl (fun X => ?_)
  refine z_iload_n d_Mod_glasses_0 rfl 1 rfl ?_
  refine z_invs d_Mod_glasses_1 4 rfl hm_Mod_isLaw lk_Mod_79 st_Mod_isLaw (r_Mod_isLaw _) rfl rfl (by decide) rfl rfl (Nat.le_of_ble_eq_true rfl) ?_
  refine z_if_eq d_Mod_glasses_4 16 7 (by decide) rfl (fun h => absurd h (by rw [hl]; decide)) (fun h1 => ?_)
  refine z_iload_n d_Mod_glasses_7 rfl 8 rfl ?_
  refine z_iconst d_Mod_glasses_8 1 (by decide) 9 rfl ?_
  refine z_iconst d_Mod_glasses_9 5 (by decide) 10 rfl ?_
  refine z_invs d_Mod_glasses_10 13 rfl hm_Mod_within lk_Mod_82 st_Mod_within (r_Mod_within_1 _ _ _ hw) rfl rfl (by decide) rfl rfl (Nat.le_of_ble_eq_true rfl) ?_
  refine z_goto d_Mod_glasses_13 17 (by decide) ?_
  refine z_istore_n d_Mod_glasses_17 18 rfl (by decide) rfl ?_
  refine z_iload_n d_Mod_glasses_18 rfl 19 rfl ?_
  refine z_if_eq d_Mod_glasses_19 28 22 (by decide) rfl (fun h => absurd h (by decide)) (fun h2 => ?_)
  refine z_aload_n d_Mod_glasses_22 rfl 23 rfl ?_
  refine z_iload_n d_Mod_glasses_23 rfl 24 rfl ?_
  refine z_invv d_Mod_glasses_24 27 rfl hm_Mod_refuse lk_Mod_29 im_Mod_refuse sl_Mod_Mod_refuse rfl wm_45 (r_Mod_refuse (-4) 4 (by decide) (by decide)) rfl rfl (by decide) rfl rfl (Nat.le_of_ble_eq_true rfl) ?_
  exact z_ireturn d_Mod_glasses_27 (rfl) (rfl)
set_option maxHeartbeats 400000 in
theorem r_Mod_glasses_6 {K : zKK} {rf s im mt rd sc : Nat → Int32} {tl : List zC} (l m : Int32) (hl : inR l 6 = true) (hw : ¬ m < 1) (hv : 5 < m) : Ret 2 0 0 m_Mod_glasses [.ref 45, .int l, .int m] (wld K (rf, s, im, mt, rd, sc) tl) (some (.int (-6))) (wld K (rfu rf 6, s, im, mt, rd, sc) tl) := by
  refine Ret.of (n := 8) (by decide) (rfl) rfl (fun X => ?_)
  refine z_iload_n d_Mod_glasses_0 rfl 1 rfl ?_
  refine z_invs d_Mod_glasses_1 4 rfl hm_Mod_isLaw lk_Mod_79 st_Mod_isLaw (r_Mod_isLaw _) rfl rfl (by decide) rfl rfl (Nat.le_of_ble_eq_true rfl) ?_
  refine z_if_eq d_Mod_glasses_4 16 7 (by decide) rfl (fun h => absurd h (by rw [hl]; decide)) (fun h1 => ?_)
  refine z_iload_n d_Mod_glasses_7 rfl 8 rfl ?_
  refine z_iconst d_Mod_glasses_8 1 (by decide) 9 rfl ?_
  refine z_iconst d_Mod_glasses_9 5 (by decide) 10 rfl ?_
  refine z_invs d_Mod_glasses_10 13 rfl hm_Mod_within lk_Mod_82 st_Mod_within (r_Mod_within_2 _ _ _ hw hv) rfl rfl (by decide) rfl rfl (Nat.le_of_ble_eq_true rfl) ?_
  refine z_goto d_Mod_glasses_13 17 (by decide) ?_
  refine z_istore_n d_Mod_glasses_17 18 rfl (by decide) rfl ?_
  refine z_iload_n d_Mod_glasses_18 rfl 19 rfl ?_
  refine z_if_eq d_Mod_glasses_19 28 22 (by decide) rfl (fun h => absurd h (by decide)) (fun h2 => ?_)
  refine z_aload_n d_Mod_glasses_22 rfl 23 rfl ?_
  refine z_iload_n d_Mod_glasses_23 rfl 24 rfl ?_
  refine z_invv d_Mod_glasses_24 27 rfl hm_Mod_refuse lk_Mod_29 im_Mod_refuse sl_Mod_Mod_refuse rfl wm_45 (r_Mod_refuse (-6) 6 (by decide) (by decide)) rfl rfl (by decide) rfl rfl (Nat.le_of_ble_eq_true rfl) ?_
  exact z_ireturn d_Mod_glasses_27 (rfl) (rfl)
set_option maxHeartbeats 400000 in
theorem r_Mod_glasses_0 {K : zKK} {rf s im mt rd sc : Nat → Int32} {tl : List zC} (j m r : Nat) (hj : j < 6) (hm1 : 1 ≤ m) (hm5 : m ≤ 5) (hrs : s (186 + 8 * j + 7) = nI r) (hr2 : r ≤ 10) : Ret 2 0 0 m_Mod_glasses [.ref 45, .int (nI j), .int (nI m)] (wld K (rf, s, im, mt, rd, sc) tl) (some (.int (gbV s r (min m r) (2 ^ r)).1)) (wld K (rf, s, im, mt, rd, sc) tl) := by
  have hw : ¬ nI m < 1 := fun q => absurd ((nI_ltI (b := 1) (by omega) (by decide)).mp q) (by omega)
  have hv : ¬ 5 < nI m := fun q => absurd ((nI_ltI (a := 5) (by decide) (by omega)).mp q) (by omega)
  have h2r : 2 ^ r ≤ 1024 := Nat.le_trans (Nat.pow_le_pow_right (by decide) hr2) (by decide)
  refine Ret.of (n := 8) (by decide) (rfl) rfl (fun X => ?_)
  refine z_iload_n d_Mod_glasses_0 rfl 1 rfl ?_
  refine z_invs d_Mod_glasses_1 4 rfl hm_Mod_isLaw lk_Mod_79 st_Mod_isLaw (r_Mod_isLaw _) rfl rfl (by decide) rfl rfl (Nat.le_of_ble_eq_true rfl) ?_
  refine z_if_eq d_Mod_glasses_4 16 7 (by decide) rfl (fun h => absurd h (by rw [show inR (nI j) 6 = true from inR_nI hj (by decide)]; decide)) (fun h1 => ?_)
  refine z_iload_n d_Mod_glasses_7 rfl 8 rfl ?_
  refine z_iconst d_Mod_glasses_8 1 (by decide) 9 rfl ?_
  refine z_iconst d_Mod_glasses_9 5 (by decide) 10 rfl ?_
  refine z_invs d_Mod_glasses_10 13 rfl hm_Mod_within lk_Mod_82 st_Mod_within (r_Mod_within_3 _ _ _ hw hv) rfl rfl (by decide) rfl rfl (Nat.le_of_ble_eq_true rfl) ?_
  refine z_goto d_Mod_glasses_13 17 (by decide) ?_
  refine z_istore_n d_Mod_glasses_17 18 rfl (by decide) rfl ?_
  refine z_iload_n d_Mod_glasses_18 rfl 19 rfl ?_
  refine z_if_eq d_Mod_glasses_19 28 22 (by decide) rfl (fun h2 => ?_) (fun h => absurd (by decide) h)
  refine z_aload_n d_Mod_glasses_28 rfl 29 rfl ?_
  refine z_get d_Mod_glasses_29 32 rfl fl_Mod_13_11 wm_45 rfl ?_
  refine z_sipush d_Mod_glasses_32 186 (by decide) 35 rfl ?_
  refine z_bipush d_Mod_glasses_35 8 (by decide) 37 rfl ?_
  refine z_iload_n d_Mod_glasses_37 rfl 38 rfl ?_
  refine z_imul d_Mod_glasses_38 39 rfl ?_
  refine z_iadd d_Mod_glasses_39 40 rfl ?_
  refine z_bipush d_Mod_glasses_40 7 (by decide) 42 rfl ?_
  refine z_iadd d_Mod_glasses_42 43 rfl ?_
  refine z_iaload d_Mod_glasses_43 (((186 + (8 * j)) + 7)) 44 rfl wm_47 (by show ((nI 186 + (nI 8 * nI j)) + nI 7) = _; simp only [pk_mul, nI_add]) (by omega) (by decide) ?_
  refine z_top (.int (nI (r))) (by rw [hrs]) ?_
  refine z_istore d_Mod_glasses_44 46 rfl (by decide) rfl ?_
  refine z_iload_n d_Mod_glasses_46 rfl 47 rfl ?_
  refine z_iload d_Mod_glasses_47 rfl 49 rfl ?_
  refine z_icmp_ge d_Mod_glasses_49 56 52 (by decide) rfl (fun h3 => ?_) (fun h3 => ?_)
  · have e5 : min m r = r := by have := (nI_leI (by omega) (by omega)).mp h3; omega
    refine z_iload d_Mod_glasses_56 rfl 58 rfl ?_
    refine z_top (.int (nI (min m r))) (by rw [e5]) ?_
    refine z_istore d_Mod_glasses_58 60 rfl (by decide) rfl ?_
    refine z_bipush d_Mod_glasses_60 (-9) (by decide) 62 rfl ?_
    refine z_istore d_Mod_glasses_62 64 rfl (by decide) rfl ?_
    refine z_iconst d_Mod_glasses_64 0 (by decide) 65 rfl ?_
    refine z_istore d_Mod_glasses_65 67 rfl (by decide) rfl ?_
    refine z_iconst d_Mod_glasses_67 0 (by decide) 68 rfl ?_
    refine z_istore d_Mod_glasses_68 70 rfl (by decide) rfl ?_
    refine zloop (fun i => Z X m_Mod_glasses 2 0 0 (some (.int (gbV s r (min m r) (2 ^ r)).1)) (wld K (rf, s, im, mt, rd, sc) tl) 70 [some (.ref 45), some (.int (nI j)), some (.int (nI m)), some (.int 0), some (.int (nI r)), some (.int (nI (min m r))), some (.int ((gbV s r (min m r) i).1)), some (.int ((gbV s r (min m r) i).2)), some (.int (nI i)), none, none] [] (wld K (rf, s, im, mt, rd, sc) tl)) (2 ^ r) ?_ ?_ 0 (Nat.zero_le _)
    · refine z_iload d_Mod_glasses_70 rfl 72 rfl ?_
      refine z_iconst d_Mod_glasses_72 1 (by decide) 73 rfl ?_
      refine z_iload d_Mod_glasses_73 rfl 75 rfl ?_
      refine z_ishl d_Mod_glasses_75 76 rfl ?_
      refine z_icmp_ge d_Mod_glasses_76 164 79 (by decide) rfl (fun h4 => ?_) (fun h => absurd (by rw [gsh hr2]; exact Int32.le_refl _) h)
      refine z_iload d_Mod_glasses_164 rfl 166 rfl ?_
      exact z_ireturn d_Mod_glasses_166 (rfl) (rfl)
    · intro i hi ih
      have ih0 := ih
      have hp10 := pop_le 10 i
      have hi10 : i < 2 ^ 10 := by omega
      refine z_iload d_Mod_glasses_70 rfl 72 rfl ?_
      refine z_iconst d_Mod_glasses_72 1 (by decide) 73 rfl ?_
      refine z_iload d_Mod_glasses_73 rfl 75 rfl ?_
      refine z_ishl d_Mod_glasses_75 76 rfl ?_
      refine z_icmp_ge d_Mod_glasses_76 164 79 (by decide) rfl (fun h => absurd h (by rw [gsh hr2]; exact nI_ge hi (by omega))) (fun h5 => ?_)
      refine z_iload d_Mod_glasses_79 rfl 81 rfl ?_
      refine z_invs d_Mod_glasses_81 84 rfl hm_Mod_bits lk_Mod_109 st_Mod_bits (r_Mod_bits _ 10 (i) rfl (by omega) (by decide)) rfl rfl (by decide) rfl rfl (Nat.le_of_ble_eq_true rfl) ?_
      refine z_iload d_Mod_glasses_84 rfl 86 rfl ?_
      refine z_icmp_eq d_Mod_glasses_86 92 89 (by decide) rfl (fun h6 => ?_) (fun h6 => ?_)
      · have e0 : pop 10 i = min m r := (nI_eq (by omega) (by omega)).mp h6
        refine z_iconst d_Mod_glasses_92 0 (by decide) 93 rfl ?_
        refine z_istore d_Mod_glasses_93 95 rfl (by decide) rfl ?_
        refine z_iconst d_Mod_glasses_95 0 (by decide) 96 rfl ?_
        refine z_istore d_Mod_glasses_96 98 rfl (by decide) rfl ?_
        refine zloop (fun t => Z X m_Mod_glasses 2 0 0 (some (.int (gbV s r (min m r) (2 ^ r)).1)) (wld K (rf, s, im, mt, rd, sc) tl) 98 [some (.ref 45), some (.int (nI j)), some (.int (nI m)), some (.int 0), some (.int (nI r)), some (.int (nI (min m r))), some (.int ((gbV s r (min m r) i).1)), some (.int ((gbV s r (min m r) i).2)), some (.int (nI i)), some (.int (sm (fun t => ((nI i >>> (nI t &&& 31)) &&& 1) * s (254 + t)) t)), some (.int (nI t))] [] (wld K (rf, s, im, mt, rd, sc) tl)) (r) ?_ ?_ 0 (Nat.zero_le _)
        · refine z_iload d_Mod_glasses_98 rfl 100 rfl ?_
          refine z_iload d_Mod_glasses_100 rfl 102 rfl ?_
          refine z_icmp_ge d_Mod_glasses_102 135 105 (by decide) rfl (fun h7 => ?_) (fun h => absurd (Int32.le_refl _) h)
          refine z_iload d_Mod_glasses_135 rfl 137 rfl ?_
          refine z_if_lt d_Mod_glasses_137 150 140 (by decide) rfl (fun h8 => ?_) (fun h8 => ?_)
          · have e3 : gbV s r (min m r) (i + 1) = (nI i, rgS s (nI i) r) := by simp only [gbV]; rw [if_pos e0, if_neg (fun z => absurd z.1 (Int32.not_le.mpr h8))]
            refine z_iload d_Mod_glasses_150 rfl 152 rfl ?_
            refine z_istore d_Mod_glasses_152 154 rfl (by decide) rfl ?_
            refine z_iload d_Mod_glasses_154 rfl 156 rfl ?_
            refine z_istore d_Mod_glasses_156 158 rfl (by decide) rfl ?_
            refine z_iinc d_Mod_glasses_158 1 (by decide) 161 rfl rfl (by decide) rfl ?_
            refine z_goto d_Mod_glasses_161 70 (by decide) ?_
            exact z_Lg _ ih0 (by rw [e3]; simp [zLw, List.set, nI_succ, rgS])
          · have e1 : 0 ≤ (gbV s r (min m r) i).1 := Int32.not_lt.mp h8
            refine z_iload d_Mod_glasses_140 rfl 142 rfl ?_
            refine z_iload d_Mod_glasses_142 rfl 144 rfl ?_
            refine z_icmp_gt d_Mod_glasses_144 150 147 (by decide) rfl (fun h9 => ?_) (fun h9 => ?_)
            · have e3 : gbV s r (min m r) (i + 1) = (nI i, rgS s (nI i) r) := by simp only [gbV]; rw [if_pos e0, if_neg (fun z => absurd z.2 (Int32.not_le.mpr h9))]
              refine z_iload d_Mod_glasses_150 rfl 152 rfl ?_
              refine z_istore d_Mod_glasses_152 154 rfl (by decide) rfl ?_
              refine z_iload d_Mod_glasses_154 rfl 156 rfl ?_
              refine z_istore d_Mod_glasses_156 158 rfl (by decide) rfl ?_
              refine z_iinc d_Mod_glasses_158 1 (by decide) 161 rfl rfl (by decide) rfl ?_
              refine z_goto d_Mod_glasses_161 70 (by decide) ?_
              exact z_Lg _ ih0 (by rw [e3]; simp [zLw, List.set, nI_succ, rgS])
            · have e3 : gbV s r (min m r) (i + 1) = gbV s r (min m r) i := by simp only [gbV]; rw [if_pos e0, if_pos ⟨e1, Int32.not_lt.mp h9⟩]
              refine z_goto d_Mod_glasses_147 158 (by decide) ?_
              refine z_iinc d_Mod_glasses_158 1 (by decide) 161 rfl rfl (by decide) rfl ?_
              refine z_goto d_Mod_glasses_161 70 (by decide) ?_
              exact z_Lg _ ih0 (by rw [e3]; simp [zLw, List.set, nI_succ, rgS])
        · intro t ht ih
          refine z_iload d_Mod_glasses_98 rfl 100 rfl ?_
          refine z_iload d_Mod_glasses_100 rfl 102 rfl ?_
          refine z_icmp_ge d_Mod_glasses_102 135 105 (by decide) rfl (fun h => absurd h (nI_ge ht (by omega))) (fun h10 => ?_)
          refine z_iload d_Mod_glasses_105 rfl 107 rfl ?_
          refine z_iload d_Mod_glasses_107 rfl 109 rfl ?_
          refine z_iload d_Mod_glasses_109 rfl 111 rfl ?_
          refine z_ishr d_Mod_glasses_111 112 rfl ?_
          refine z_iconst d_Mod_glasses_112 1 (by decide) 113 rfl ?_
          refine z_iand d_Mod_glasses_113 114 rfl ?_
          refine z_aload_n d_Mod_glasses_114 rfl 115 rfl ?_
          refine z_get d_Mod_glasses_115 118 rfl fl_Mod_13_11 wm_45 rfl ?_
          refine z_sipush d_Mod_glasses_118 254 (by decide) 121 rfl ?_
          refine z_iload d_Mod_glasses_121 rfl 123 rfl ?_
          refine z_iadd d_Mod_glasses_123 124 rfl ?_
          refine z_iaload d_Mod_glasses_124 ((254 + t)) 125 rfl wm_47 (by show (nI 254 + nI t) = _; simp only [pk_mul, nI_add]) (by omega) (by decide) ?_
          refine z_imul d_Mod_glasses_125 126 rfl ?_
          refine z_iadd d_Mod_glasses_126 127 rfl ?_
          refine z_istore d_Mod_glasses_127 129 rfl (by decide) rfl ?_
          refine z_iinc d_Mod_glasses_129 1 (by decide) 132 rfl rfl (by decide) rfl ?_
          refine z_goto d_Mod_glasses_132 98 (by decide) ?_
          exact z_L _ (by simp [List.set, nI_succ, sm]) ih
      · have e0 : ¬ pop 10 i = min m r := fun z => h6 (by rw [z])
        refine z_goto d_Mod_glasses_89 158 (by decide) ?_
        refine z_iinc d_Mod_glasses_158 1 (by decide) 161 rfl rfl (by decide) rfl ?_
        refine z_goto d_Mod_glasses_161 70 (by decide) ?_
        exact z_Lg _ ih0 (by rw [show gbV s r (min m r) (i + 1) = gbV s r (min m r) i by simp only [gbV]; rw [if_neg e0]]; simp [zLw, List.set, nI_succ])
  · have e5 : min m r = m := by have : ¬ r ≤ m := fun q => h3 ((nI_leI (by omega) (by omega)).mpr q); omega
    refine z_iload_n d_Mod_glasses_52 rfl 53 rfl ?_
    refine z_goto d_Mod_glasses_53 58 (by decide) ?_
    refine z_top (.int (nI (min m r))) (by rw [e5]) ?_
    refine z_istore d_Mod_glasses_58 60 rfl (by decide) rfl ?_
    refine z_bipush d_Mod_glasses_60 (-9) (by decide) 62 rfl ?_
    refine z_istore d_Mod_glasses_62 64 rfl (by decide) rfl ?_
    refine z_iconst d_Mod_glasses_64 0 (by decide) 65 rfl ?_
    refine z_istore d_Mod_glasses_65 67 rfl (by decide) rfl ?_
    refine z_iconst d_Mod_glasses_67 0 (by decide) 68 rfl ?_
    refine z_istore d_Mod_glasses_68 70 rfl (by decide) rfl ?_
    refine zloop (fun i => Z X m_Mod_glasses 2 0 0 (some (.int (gbV s r (min m r) (2 ^ r)).1)) (wld K (rf, s, im, mt, rd, sc) tl) 70 [some (.ref 45), some (.int (nI j)), some (.int (nI m)), some (.int 0), some (.int (nI r)), some (.int (nI (min m r))), some (.int ((gbV s r (min m r) i).1)), some (.int ((gbV s r (min m r) i).2)), some (.int (nI i)), none, none] [] (wld K (rf, s, im, mt, rd, sc) tl)) (2 ^ r) ?_ ?_ 0 (Nat.zero_le _)
    · refine z_iload d_Mod_glasses_70 rfl 72 rfl ?_
      refine z_iconst d_Mod_glasses_72 1 (by decide) 73 rfl ?_
      refine z_iload d_Mod_glasses_73 rfl 75 rfl ?_
      refine z_ishl d_Mod_glasses_75 76 rfl ?_
      refine z_icmp_ge d_Mod_glasses_76 164 79 (by decide) rfl (fun h11 => ?_) (fun h => absurd (by rw [gsh hr2]; exact Int32.le_refl _) h)
      refine z_iload d_Mod_glasses_164 rfl 166 rfl ?_
      exact z_ireturn d_Mod_glasses_166 (rfl) (rfl)
    · intro i hi ih
      have ih0 := ih
      have hp10 := pop_le 10 i
      have hi10 : i < 2 ^ 10 := by omega
      refine z_iload d_Mod_glasses_70 rfl 72 rfl ?_
      refine z_iconst d_Mod_glasses_72 1 (by decide) 73 rfl ?_
      refine z_iload d_Mod_glasses_73 rfl 75 rfl ?_
      refine z_ishl d_Mod_glasses_75 76 rfl ?_
      refine z_icmp_ge d_Mod_glasses_76 164 79 (by decide) rfl (fun h => absurd h (by rw [gsh hr2]; exact nI_ge hi (by omega))) (fun h12 => ?_)
      refine z_iload d_Mod_glasses_79 rfl 81 rfl ?_
      refine z_invs d_Mod_glasses_81 84 rfl hm_Mod_bits lk_Mod_109 st_Mod_bits (r_Mod_bits _ 10 (i) rfl (by omega) (by decide)) rfl rfl (by decide) rfl rfl (Nat.le_of_ble_eq_true rfl) ?_
      refine z_iload d_Mod_glasses_84 rfl 86 rfl ?_
      refine z_icmp_eq d_Mod_glasses_86 92 89 (by decide) rfl (fun h13 => ?_) (fun h13 => ?_)
      · have e0 : pop 10 i = min m r := (nI_eq (by omega) (by omega)).mp h13
        refine z_iconst d_Mod_glasses_92 0 (by decide) 93 rfl ?_
        refine z_istore d_Mod_glasses_93 95 rfl (by decide) rfl ?_
        refine z_iconst d_Mod_glasses_95 0 (by decide) 96 rfl ?_
        refine z_istore d_Mod_glasses_96 98 rfl (by decide) rfl ?_
        refine zloop (fun t => Z X m_Mod_glasses 2 0 0 (some (.int (gbV s r (min m r) (2 ^ r)).1)) (wld K (rf, s, im, mt, rd, sc) tl) 98 [some (.ref 45), some (.int (nI j)), some (.int (nI m)), some (.int 0), some (.int (nI r)), some (.int (nI (min m r))), some (.int ((gbV s r (min m r) i).1)), some (.int ((gbV s r (min m r) i).2)), some (.int (nI i)), some (.int (sm (fun t => ((nI i >>> (nI t &&& 31)) &&& 1) * s (254 + t)) t)), some (.int (nI t))] [] (wld K (rf, s, im, mt, rd, sc) tl)) (r) ?_ ?_ 0 (Nat.zero_le _)
        · refine z_iload d_Mod_glasses_98 rfl 100 rfl ?_
          refine z_iload d_Mod_glasses_100 rfl 102 rfl ?_
          refine z_icmp_ge d_Mod_glasses_102 135 105 (by decide) rfl (fun h14 => ?_) (fun h => absurd (Int32.le_refl _) h)
          refine z_iload d_Mod_glasses_135 rfl 137 rfl ?_
          refine z_if_lt d_Mod_glasses_137 150 140 (by decide) rfl (fun h15 => ?_) (fun h15 => ?_)
          · have e3 : gbV s r (min m r) (i + 1) = (nI i, rgS s (nI i) r) := by simp only [gbV]; rw [if_pos e0, if_neg (fun z => absurd z.1 (Int32.not_le.mpr h15))]
            refine z_iload d_Mod_glasses_150 rfl 152 rfl ?_
            refine z_istore d_Mod_glasses_152 154 rfl (by decide) rfl ?_
            refine z_iload d_Mod_glasses_154 rfl 156 rfl ?_
            refine z_istore d_Mod_glasses_156 158 rfl (by decide) rfl ?_
            refine z_iinc d_Mod_glasses_158 1 (by decide) 161 rfl rfl (by decide) rfl ?_
            refine z_goto d_Mod_glasses_161 70 (by decide) ?_
            exact z_Lg _ ih0 (by rw [e3]; simp [zLw, List.set, nI_succ, rgS])
          · have e1 : 0 ≤ (gbV s r (min m r) i).1 := Int32.not_lt.mp h15
            refine z_iload d_Mod_glasses_140 rfl 142 rfl ?_
            refine z_iload d_Mod_glasses_142 rfl 144 rfl ?_
            refine z_icmp_gt d_Mod_glasses_144 150 147 (by decide) rfl (fun h16 => ?_) (fun h16 => ?_)
            · have e3 : gbV s r (min m r) (i + 1) = (nI i, rgS s (nI i) r) := by simp only [gbV]; rw [if_pos e0, if_neg (fun z => absurd z.2 (Int32.not_le.mpr h16))]
              refine z_iload d_Mod_glasses_150 rfl 152 rfl ?_
              refine z_istore d_Mod_glasses_152 154 rfl (by decide) rfl ?_
              refine z_iload d_Mod_glasses_154 rfl 156 rfl ?_
              refine z_istore d_Mod_glasses_156 158 rfl (by decide) rfl ?_
              refine z_iinc d_Mod_glasses_158 1 (by decide) 161 rfl rfl (by decide) rfl ?_
              refine z_goto d_Mod_glasses_161 70 (by decide) ?_
              exact z_Lg _ ih0 (by rw [e3]; simp [zLw, List.set, nI_succ, rgS])
            · have e3 : gbV s r (min m r) (i + 1) = gbV s r (min m r) i := by simp only [gbV]; rw [if_pos e0, if_pos ⟨e1, Int32.not_lt.mp h16⟩]
              refine z_goto d_Mod_glasses_147 158 (by decide) ?_
              refine z_iinc d_Mod_glasses_158 1 (by decide) 161 rfl rfl (by decide) rfl ?_
              refine z_goto d_Mod_glasses_161 70 (by decide) ?_
              exact z_Lg _ ih0 (by rw [e3]; simp [zLw, List.set, nI_succ, rgS])
        · intro t ht ih
          refine z_iload d_Mod_glasses_98 rfl 100 rfl ?_
          refine z_iload d_Mod_glasses_100 rfl 102 rfl ?_
          refine z_icmp_ge d_Mod_glasses_102 135 105 (by decide) rfl (fun h => absurd h (nI_ge ht (by omega))) (fun h17 => ?_)
          refine z_iload d_Mod_glasses_105 rfl 107 rfl ?_
          refine z_iload d_Mod_glasses_107 rfl 109 rfl ?_
          refine z_iload d_Mod_glasses_109 rfl 111 rfl ?_
          refine z_ishr d_Mod_glasses_111 112 rfl ?_
          refine z_iconst d_Mod_glasses_112 1 (by decide) 113 rfl ?_
          refine z_iand d_Mod_glasses_113 114 rfl ?_
          refine z_aload_n d_Mod_glasses_114 rfl 115 rfl ?_
          refine z_get d_Mod_glasses_115 118 rfl fl_Mod_13_11 wm_45 rfl ?_
          refine z_sipush d_Mod_glasses_118 254 (by decide) 121 rfl ?_
          refine z_iload d_Mod_glasses_121 rfl 123 rfl ?_
          refine z_iadd d_Mod_glasses_123 124 rfl ?_
          refine z_iaload d_Mod_glasses_124 ((254 + t)) 125 rfl wm_47 (by show (nI 254 + nI t) = _; simp only [pk_mul, nI_add]) (by omega) (by decide) ?_
          refine z_imul d_Mod_glasses_125 126 rfl ?_
          refine z_iadd d_Mod_glasses_126 127 rfl ?_
          refine z_istore d_Mod_glasses_127 129 rfl (by decide) rfl ?_
          refine z_iinc d_Mod_glasses_129 1 (by decide) 132 rfl rfl (by decide) rfl ?_
          refine z_goto d_Mod_glasses_132 98 (by decide) ?_
          exact z_L _ (by simp [List.set, nI_succ, sm]) ih
      · have e0 : ¬ pop 10 i = min m r := fun z => h13 (by rw [z])
        refine z_goto d_Mod_glasses_89 158 (by decide) ?_
        refine z_iinc d_Mod_glasses_158 1 (by decide) 161 rfl rfl (by decide) rfl ?_
        refine z_goto d_Mod_glasses_161 70 (by decide) ?_
        exact z_Lg _ ih0 (by rw [show gbV s r (min m r) (i + 1) = gbV s r (min m r) i by simp only [gbV]; rw [if_neg e0]]; simp [zLw, List.set, nI_succ])
