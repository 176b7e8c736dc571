theorem hfN_lt {s : Nat → Int32} {n l : Nat} : ∀ i, i ≤ 128 → hfN s n l i < 128
  | 0, _ => by show 127 < 128; decide
  | i + 1, h => by
    have := hfN_lt (s := s) (n := n) (l := l) i (by omega)
    simp only [hfN]
    split <;> omega
theorem hfN_yes {s : Nat → Int32} {n l i : Nat} (h1 : s 0 ≤ 2 * fcV s n l (nI i)) (h2 : pop 8 i < pop 8 (hfN s n l i)) : hfN s n l (i + 1) = i := by simp only [hfN]; rw [if_pos ⟨h1, h2⟩]
theorem hfN_no {s : Nat → Int32} {n l i : Nat} (h : ¬ (s 0 ≤ 2 * fcV s n l (nI i) ∧ pop 8 i < pop 8 (hfN s n l i))) : hfN s n l (i + 1) = hfN s n l i := by simp only [hfN]; rw [if_neg h]
theorem z_Lg {X : zS} {M : zM} {d kc ks : Nat} {r : Option Value} {hp' : List zC} {pc : Nat} {L : List (Option Value)} {st : List Value} {hp : List zC} (L1 : List (Option Value)) (k : Z X M d kc ks r hp' pc L1 st hp) (e : zLw L L1 = true) : Z X M d kc ks r hp' pc L st hp := z_Lw L1 e k
set_option maxHeartbeats 400000 in
theorem r_Mod_half {K : zKK} {rf s im mt rd sc : Nat → Int32} {tl : List zC} {n : Nat} (hn : s 0 = nI n) (hn30 : n ≤ 30) (hz0 : NZ s n) (l : Int32) : Ret 5 0 0 m_Mod_half [.ref 45, .int l] (wld K (rf, s, im, mt, rd, sc) tl) (some (.int ((if inR l 6 = true then nI (hfN s n (ix l) 128) else -1)))) (wld K ((if inR l 6 = true then rf else rfu rf 1), s, im, mt, rd, sc) tl) := by
  refine Ret.of (n := 4) (by decide) (rfl) rfl (fun X => ?_)
  refine z_iload_n d_Mod_half_0 rfl 1 rfl ?_
  refine z_invs d_Mod_half_1 4 rfl hm_Mod_isLaw lk_Mod_79 st_Mod_isLaw (r_Mod_isLaw _) rfl rfl (by decide) rfl rfl (Nat.le_of_ble_eq_true rfl) ?_
  refine z_if_ne d_Mod_half_4 13 7 (by decide) rfl (fun h1 => ?_) (fun h1 => ?_)
  · obtain ⟨i2, hi2, rfl⟩ := vld h1 (n := 6) rfl (by decide)
    have hci2 : (nI i2).toNatClampNeg = i2 := nI_clamp (by omega)
    refine z_bipush d_Mod_half_13 127 (by decide) 15 rfl ?_
    refine z_istore_n d_Mod_half_15 16 rfl (by decide) rfl ?_
    refine z_iconst d_Mod_half_16 0 (by decide) 17 rfl ?_
    refine z_istore_n d_Mod_half_17 18 rfl (by decide) rfl ?_
    refine zloop (fun i => Z X m_Mod_half 5 0 0 (some (.int ((if inR (nI i2) 6 = true then nI (hfN s n (ix (nI i2)) 128) else -1)))) (wld K ((if inR (nI i2) 6 = true then rf else rfu rf 1), s, im, mt, rd, sc) tl) 18 [some (.ref 45), some (.int (nI i2)), some (.int (nI (hfN s n i2 i))), some (.int (nI i)), none, none] [] (wld K (rf, s, im, mt, rd, sc) tl)) (128) ?_ ?_ 0 (Nat.zero_le _)
    · refine z_iload_n d_Mod_half_18 rfl 19 rfl ?_
      refine z_sipush d_Mod_half_19 128 (by decide) 22 rfl ?_
      refine z_icmp_ge d_Mod_half_22 105 25 (by decide) rfl (fun h3 => ?_) (fun h => absurd (by decide) h)
      refine z_iload_n d_Mod_half_105 rfl 106 rfl ?_
      exact z_ireturn d_Mod_half_106 (by simp_all [zb_eq, zb_ne]) (by simp_all [zb_eq, zb_ne, rfu, ← Int32.not_le])
    · intro i hi ih
      have ih0 := ih
      refine z_iload_n d_Mod_half_18 rfl 19 rfl ?_
      refine z_sipush d_Mod_half_19 128 (by decide) 22 rfl ?_
      refine z_icmp_ge d_Mod_half_22 105 25 (by decide) rfl (fun h => absurd h (show ¬ nI 128 ≤ nI i from nI_ge hi (by decide))) (fun h4 => ?_)
      refine z_iconst d_Mod_half_25 0 (by decide) 26 rfl ?_
      refine z_istore d_Mod_half_26 28 rfl (by decide) rfl ?_
      refine z_iconst d_Mod_half_28 0 (by decide) 29 rfl ?_
      refine z_istore d_Mod_half_29 31 rfl (by decide) rfl ?_
      refine zloop (fun t => Z X m_Mod_half 5 0 0 (some (.int ((if inR (nI i2) 6 = true then nI (hfN s n (ix (nI i2)) 128) else -1)))) (wld K ((if inR (nI i2) 6 = true then rf else rfu rf 1), s, im, mt, rd, sc) tl) 31 [some (.ref 45), some (.int (nI i2)), some (.int (nI (hfN s n i2 i))), some (.int (nI i)), some (.int (sm (fun t => if fit s t i2 (nI i) = true then 1 else 0) t)), some (.int (nI t))] [] (wld K (rf, s, im, mt, rd, sc) tl)) (n) ?_ ?_ 0 (Nat.zero_le _)
      · have hb := hfN_lt (s := s) (n := n) (l := i2) i (by omega)
        have hp1 := pop_le 8 i
        have hp2 := pop_le 8 (hfN s n i2 i)
        refine z_iload d_Mod_half_31 rfl 33 rfl ?_
        refine z_aload_n d_Mod_half_33 rfl 34 rfl ?_
        refine z_get d_Mod_half_34 37 rfl fl_Mod_13_11 wm_45 rfl ?_
        refine z_iconst d_Mod_half_37 0 (by decide) 38 rfl ?_
        refine z_iaload d_Mod_half_38 (0) 39 rfl wm_47 (rfl) (by omega) (by decide) ?_
        refine z_icmp_ge d_Mod_half_39 69 42 (by decide) rfl (fun h5 => ?_) (fun h => absurd (by rw [hn]; exact Int32.le_refl _) h)
        refine z_iconst d_Mod_half_69 2 (by decide) 70 rfl ?_
        refine z_iload d_Mod_half_70 rfl 72 rfl ?_
        refine z_imul d_Mod_half_72 73 rfl ?_
        refine z_aload_n d_Mod_half_73 rfl 74 rfl ?_
        refine z_get d_Mod_half_74 77 rfl fl_Mod_13_11 wm_45 rfl ?_
        refine z_iconst d_Mod_half_77 0 (by decide) 78 rfl ?_
        refine z_iaload d_Mod_half_78 (0) 79 rfl wm_47 (rfl) (by omega) (by decide) ?_
        refine z_icmp_lt d_Mod_half_79 97 82 (by decide) rfl (fun h6 => ?_) (fun h6 => ?_)
        · have e18 := hfN_no (s := s) (n := n) (l := i2) (i := i) (fun q => absurd q.1 (Int32.not_le.mpr h6))
          refine z_iload_n d_Mod_half_97 rfl 98 rfl ?_
          refine z_istore_n d_Mod_half_98 99 rfl (by decide) rfl ?_
          refine z_iinc d_Mod_half_99 1 (by decide) 102 rfl rfl (by decide) rfl ?_
          refine z_goto d_Mod_half_102 18 (by decide) ?_
          exact z_Lg _ ih0 (by rw [e18]; simp [zLw, List.set, nI_succ])
        · have e17 : s 0 ≤ 2 * fcV s n i2 (nI i) := Int32.not_lt.mp h6
          refine z_iload_n d_Mod_half_82 rfl 83 rfl ?_
          refine z_invs d_Mod_half_83 86 rfl hm_Mod_bits lk_Mod_109 st_Mod_bits (r_Mod_bits _ 8 (i) rfl (by omega) (by decide)) rfl rfl (by decide) rfl rfl (Nat.le_of_ble_eq_true rfl) ?_
          refine z_iload_n d_Mod_half_86 rfl 87 rfl ?_
          refine z_invs d_Mod_half_87 90 rfl hm_Mod_bits lk_Mod_109 st_Mod_bits (r_Mod_bits _ 8 ((hfN s n i2 i)) rfl (by omega) (by decide)) rfl rfl (by decide) rfl rfl (Nat.le_of_ble_eq_true rfl) ?_
          refine z_icmp_ge d_Mod_half_90 97 93 (by decide) rfl (fun h7 => ?_) (fun h7 => ?_)
          · have e18 := hfN_no (s := s) (n := n) (l := i2) (i := i) (fun q => absurd q.2 (Nat.not_lt.mpr ((nI_leI (by omega) (by omega)).mp h7)))
            refine z_iload_n d_Mod_half_97 rfl 98 rfl ?_
            refine z_istore_n d_Mod_half_98 99 rfl (by decide) rfl ?_
            refine z_iinc d_Mod_half_99 1 (by decide) 102 rfl rfl (by decide) rfl ?_
            refine z_goto d_Mod_half_102 18 (by decide) ?_
            exact z_Lg _ ih0 (by rw [e18]; simp [zLw, List.set, nI_succ])
          · have e18 := hfN_yes (s := s) (n := n) (l := i2) (i := i) e17 (Nat.not_le.mp (fun q => absurd ((nI_leI (by omega) (by omega)).mpr q) h7))
            refine z_iload_n d_Mod_half_93 rfl 94 rfl ?_
            refine z_goto d_Mod_half_94 98 (by decide) ?_
            refine z_istore_n d_Mod_half_98 99 rfl (by decide) rfl ?_
            refine z_iinc d_Mod_half_99 1 (by decide) 102 rfl rfl (by decide) rfl ?_
            refine z_goto d_Mod_half_102 18 (by decide) ?_
            exact z_Lg _ ih0 (by rw [e18]; simp [zLw, List.set, nI_succ])
      · intro t ht ih
        refine z_iload d_Mod_half_31 rfl 33 rfl ?_
        refine z_aload_n d_Mod_half_33 rfl 34 rfl ?_
        refine z_get d_Mod_half_34 37 rfl fl_Mod_13_11 wm_45 rfl ?_
        refine z_iconst d_Mod_half_37 0 (by decide) 38 rfl ?_
        refine z_iaload d_Mod_half_38 (0) 39 rfl wm_47 (rfl) (by omega) (by decide) ?_
        refine z_icmp_ge d_Mod_half_39 69 42 (by decide) rfl (fun h => absurd h (by rw [hn]; exact nI_ge ht (by omega))) (fun h8 => ?_)
        refine z_iload d_Mod_half_42 rfl 44 rfl ?_
        refine z_aload_n d_Mod_half_44 rfl 45 rfl ?_
        refine z_iload d_Mod_half_45 rfl 47 rfl ?_
        refine z_iload_n d_Mod_half_47 rfl 48 rfl ?_
        refine z_iload_n d_Mod_half_48 rfl 49 rfl ?_
        refine z_invv d_Mod_half_49 52 rfl hm_Mod_isFit lk_Mod_96 im_Mod_isFit sl_Mod_Mod_isFit rfl wm_45 (r_Mod_isFit _ _ _ (t) (i2) rfl rfl (by omega) (by omega) (hz0 _ (by omega))) rfl rfl (by decide) rfl rfl (Nat.le_of_ble_eq_true rfl) ?_
        refine z_if_eq d_Mod_half_52 59 55 (by decide) rfl (fun h9 => ?_) (fun h9 => ?_)
        · refine z_iconst d_Mod_half_59 0 (by decide) 60 rfl ?_
          refine z_iadd d_Mod_half_60 61 rfl ?_
          refine z_istore d_Mod_half_61 63 rfl (by decide) rfl ?_
          refine z_iinc d_Mod_half_63 1 (by decide) 66 rfl rfl (by decide) rfl ?_
          refine z_goto d_Mod_half_66 31 (by decide) ?_
          exact z_L _ (by simp_all [List.set, nI_succ, sm, zb_eq, zb_ne]) ih
        · refine z_iconst d_Mod_half_55 1 (by decide) 56 rfl ?_
          refine z_goto d_Mod_half_56 60 (by decide) ?_
          refine z_iadd d_Mod_half_60 61 rfl ?_
          refine z_istore d_Mod_half_61 63 rfl (by decide) rfl ?_
          refine z_iinc d_Mod_half_63 1 (by decide) 66 rfl rfl (by decide) rfl ?_
          refine z_goto d_Mod_half_66 31 (by decide) ?_
          exact z_L _ (by simp_all [List.set, nI_succ, sm, zb_eq, zb_ne]) ih
  · refine z_aload_n d_Mod_half_7 rfl 8 rfl ?_
    refine z_iconst d_Mod_half_8 (-1) (by decide) 9 rfl ?_
    refine z_invv d_Mod_half_9 12 rfl hm_Mod_refuse lk_Mod_29 im_Mod_refuse sl_Mod_Mod_refuse rfl wm_45 (r_Mod_refuse (-1) 1 (by decide) (by decide)) rfl rfl (by decide) rfl rfl (Nat.le_of_ble_eq_true rfl) ?_
    exact z_ireturn d_Mod_half_12 (by simp_all [zb_eq, zb_ne, ← Int32.not_le]) (by simp_all [zb_eq, zb_ne, rfu, ← Int32.not_le])
set_option maxHeartbeats 400000 in
theorem r_Mod_sorts {K : zKK} {rf s im mt rd sc : Nat → Int32} {tl : List zC} {n : Nat} (hn : s 0 = nI n) (hn30 : n ≤ 30) (hz0 : NZ s n) (w : Int32) : Ret 5 0 0 m_Mod_sorts [.ref 45, .int w] (wld K (rf, s, im, mt, rd, sc) tl) (some (.int ((if inR w 2 = true then (if w = 0 then sm (fun x => if 0 < cnV s n x then 1 else 0) 64 else msV s n 64) else -2)))) (wld K ((if inR w 2 = true then rf else rfu rf 2), s, im, mt, rd, sc) tl) := by
  refine Ret.of (n := 5) (by decide) (rfl) rfl (fun X => ?_)
  refine z_iload_n d_Mod_sorts_0 rfl 1 rfl ?_
  refine z_iconst d_Mod_sorts_1 2 (by decide) 2 rfl ?_
  refine z_invs d_Mod_sorts_2 5 rfl hm_Mod_isIn lk_Mod_25 st_Mod_isIn (r_Mod_isIn _ _) rfl rfl (by decide) rfl rfl (Nat.le_of_ble_eq_true rfl) ?_
  refine z_if_ne d_Mod_sorts_5 15 8 (by decide) rfl (fun h1 => ?_) (fun h1 => ?_)
  · obtain ⟨i2, hi2, rfl⟩ := vld h1 (n := 2) rfl (by decide)
    have hci2 : (nI i2).toNatClampNeg = i2 := nI_clamp (by omega)
    refine z_iconst d_Mod_sorts_15 0 (by decide) 16 rfl ?_
    refine z_istore_n d_Mod_sorts_16 17 rfl (by decide) rfl ?_
    refine z_iconst d_Mod_sorts_17 0 (by decide) 18 rfl ?_
    refine z_istore_n d_Mod_sorts_18 19 rfl (by decide) rfl ?_
    refine z_iconst d_Mod_sorts_19 0 (by decide) 20 rfl ?_
    refine z_istore d_Mod_sorts_20 22 rfl (by decide) rfl ?_
    refine zloop (fun i => Z X m_Mod_sorts 5 0 0 (some (.int ((if inR (nI i2) 2 = true then (if (nI i2) = 0 then sm (fun x => if 0 < cnV s n x then 1 else 0) 64 else msV s n 64) else -2)))) (wld K ((if inR (nI i2) 2 = true then rf else rfu rf 2), s, im, mt, rd, sc) tl) 22 [some (.ref 45), some (.int (nI i2)), some (.int (sm (fun x => if 0 < cnV s n x then 1 else 0) i)), some (.int (msV s n i)), some (.int (nI i)), none, none] [] (wld K (rf, s, im, mt, rd, sc) tl)) (64) ?_ ?_ 0 (Nat.zero_le _)
    · refine z_iload d_Mod_sorts_22 rfl 24 rfl ?_
      refine z_bipush d_Mod_sorts_24 64 (by decide) 26 rfl ?_
      refine z_icmp_ge d_Mod_sorts_26 105 29 (by decide) rfl (fun h3 => ?_) (fun h => absurd (by decide) h)
      refine z_iload_n d_Mod_sorts_105 rfl 106 rfl ?_
      refine z_if_ne d_Mod_sorts_106 113 109 (by decide) rfl (fun h4 => ?_) (fun h4 => ?_)
      · refine z_iload_n d_Mod_sorts_113 rfl 114 rfl ?_
        exact z_ireturn d_Mod_sorts_114 (by simp_all [zb_eq, zb_ne]) (by simp_all [zb_eq, zb_ne, rfu, ← Int32.not_le])
      · refine z_iload_n d_Mod_sorts_109 rfl 110 rfl ?_
        refine z_goto d_Mod_sorts_110 114 (by decide) ?_
        exact z_ireturn d_Mod_sorts_114 (by simp_all [zb_eq, zb_ne]) (by simp_all [zb_eq, zb_ne, rfu, ← Int32.not_le])
    · intro i hi ih
      have ih0 := ih
      refine z_iload d_Mod_sorts_22 rfl 24 rfl ?_
      refine z_bipush d_Mod_sorts_24 64 (by decide) 26 rfl ?_
      refine z_icmp_ge d_Mod_sorts_26 105 29 (by decide) rfl (fun h => absurd h (show ¬ nI 64 ≤ nI i from nI_ge hi (by decide))) (fun h5 => ?_)
      refine z_iconst d_Mod_sorts_29 0 (by decide) 30 rfl ?_
      refine z_istore d_Mod_sorts_30 32 rfl (by decide) rfl ?_
      refine z_iconst d_Mod_sorts_32 0 (by decide) 33 rfl ?_
      refine z_istore d_Mod_sorts_33 35 rfl (by decide) rfl ?_
      refine zloop (fun t => Z X m_Mod_sorts 5 0 0 (some (.int ((if inR (nI i2) 2 = true then (if (nI i2) = 0 then sm (fun x => if 0 < cnV s n x then 1 else 0) 64 else msV s n 64) else -2)))) (wld K ((if inR (nI i2) 2 = true then rf else rfu rf 2), s, im, mt, rd, sc) tl) 35 [some (.ref 45), some (.int (nI i2)), some (.int (sm (fun x => if 0 < cnV s n x then 1 else 0) i)), some (.int (msV s n i)), some (.int (nI i)), some (.int (sm (fun t => if lwTo s t 6 = nI i then 1 else 0) t)), some (.int (nI t))] [] (wld K (rf, s, im, mt, rd, sc) tl)) (n) ?_ ?_ 0 (Nat.zero_le _)
      · refine z_iload d_Mod_sorts_35 rfl 37 rfl ?_
        refine z_aload_n d_Mod_sorts_37 rfl 38 rfl ?_
        refine z_get d_Mod_sorts_38 41 rfl fl_Mod_13_11 wm_45 rfl ?_
        refine z_iconst d_Mod_sorts_41 0 (by decide) 42 rfl ?_
        refine z_iaload d_Mod_sorts_42 (0) 43 rfl wm_47 (rfl) (by omega) (by decide) ?_
        refine z_icmp_ge d_Mod_sorts_43 73 46 (by decide) rfl (fun h6 => ?_) (fun h => absurd (by rw [hn]; exact Int32.le_refl _) h)
        refine z_iload_n d_Mod_sorts_73 rfl 74 rfl ?_
        refine z_iload d_Mod_sorts_74 rfl 76 rfl ?_
        refine z_if_le d_Mod_sorts_76 83 79 (by decide) rfl (fun h7 => ?_) (fun h7 => ?_)
        · have e1 : ¬ 0 < cnV s n i := Int32.not_lt.mpr h7
          refine z_iconst d_Mod_sorts_83 0 (by decide) 84 rfl ?_
          refine z_iadd d_Mod_sorts_84 85 rfl ?_
          refine z_istore_n d_Mod_sorts_85 86 rfl (by decide) rfl ?_
          refine z_iload d_Mod_sorts_86 rfl 88 rfl ?_
          refine z_iload_n d_Mod_sorts_88 rfl 89 rfl ?_
          refine z_icmp_le d_Mod_sorts_89 97 92 (by decide) rfl (fun h8 => ?_) (fun h8 => ?_)
          · have e2 : cnV s n i ≤ msV s n i := h8
            refine z_iload_n d_Mod_sorts_97 rfl 98 rfl ?_
            refine z_istore_n d_Mod_sorts_98 99 rfl (by decide) rfl ?_
            refine z_iinc d_Mod_sorts_99 1 (by decide) 102 rfl rfl (by decide) rfl ?_
            refine z_goto d_Mod_sorts_102 22 (by decide) ?_
            exact z_Lg _ ih0 (by first | (simp [zLw, List.set, nI_succ, sm, msV, e1, e2]; done) | (simp [zLw, List.set, nI_succ, sm, msV, e1, e2]; rfl))
          · have e2 : ¬ cnV s n i ≤ msV s n i := h8
            refine z_iload d_Mod_sorts_92 rfl 94 rfl ?_
            refine z_goto d_Mod_sorts_94 98 (by decide) ?_
            refine z_istore_n d_Mod_sorts_98 99 rfl (by decide) rfl ?_
            refine z_iinc d_Mod_sorts_99 1 (by decide) 102 rfl rfl (by decide) rfl ?_
            refine z_goto d_Mod_sorts_102 22 (by decide) ?_
            exact z_Lg _ ih0 (by first | (simp [zLw, List.set, nI_succ, sm, msV, e1, e2]; done) | (simp [zLw, List.set, nI_succ, sm, msV, e1, e2]; rfl))
        · have e1 : 0 < cnV s n i := Int32.not_le.mp h7
          refine z_iconst d_Mod_sorts_79 1 (by decide) 80 rfl ?_
          refine z_goto d_Mod_sorts_80 84 (by decide) ?_
          refine z_iadd d_Mod_sorts_84 85 rfl ?_
          refine z_istore_n d_Mod_sorts_85 86 rfl (by decide) rfl ?_
          refine z_iload d_Mod_sorts_86 rfl 88 rfl ?_
          refine z_iload_n d_Mod_sorts_88 rfl 89 rfl ?_
          refine z_icmp_le d_Mod_sorts_89 97 92 (by decide) rfl (fun h9 => ?_) (fun h9 => ?_)
          · have e2 : cnV s n i ≤ msV s n i := h9
            refine z_iload_n d_Mod_sorts_97 rfl 98 rfl ?_
            refine z_istore_n d_Mod_sorts_98 99 rfl (by decide) rfl ?_
            refine z_iinc d_Mod_sorts_99 1 (by decide) 102 rfl rfl (by decide) rfl ?_
            refine z_goto d_Mod_sorts_102 22 (by decide) ?_
            exact z_Lg _ ih0 (by first | (simp [zLw, List.set, nI_succ, sm, msV, e1, e2]; done) | (simp [zLw, List.set, nI_succ, sm, msV, e1, e2]; rfl))
          · have e2 : ¬ cnV s n i ≤ msV s n i := h9
            refine z_iload d_Mod_sorts_92 rfl 94 rfl ?_
            refine z_goto d_Mod_sorts_94 98 (by decide) ?_
            refine z_istore_n d_Mod_sorts_98 99 rfl (by decide) rfl ?_
            refine z_iinc d_Mod_sorts_99 1 (by decide) 102 rfl rfl (by decide) rfl ?_
            refine z_goto d_Mod_sorts_102 22 (by decide) ?_
            exact z_Lg _ ih0 (by first | (simp [zLw, List.set, nI_succ, sm, msV, e1, e2]; done) | (simp [zLw, List.set, nI_succ, sm, msV, e1, e2]; rfl))
      · intro t ht ih
        refine z_iload d_Mod_sorts_35 rfl 37 rfl ?_
        refine z_aload_n d_Mod_sorts_37 rfl 38 rfl ?_
        refine z_get d_Mod_sorts_38 41 rfl fl_Mod_13_11 wm_45 rfl ?_
        refine z_iconst d_Mod_sorts_41 0 (by decide) 42 rfl ?_
        refine z_iaload d_Mod_sorts_42 (0) 43 rfl wm_47 (rfl) (by omega) (by decide) ?_
        refine z_icmp_ge d_Mod_sorts_43 73 46 (by decide) rfl (fun h => absurd h (by rw [hn]; exact nI_ge ht (by omega))) (fun h10 => ?_)
        refine z_iload d_Mod_sorts_46 rfl 48 rfl ?_
        refine z_aload_n d_Mod_sorts_48 rfl 49 rfl ?_
        refine z_iload d_Mod_sorts_49 rfl 51 rfl ?_
        refine z_invv d_Mod_sorts_51 54 rfl hm_Mod_lawsOf lk_Mod_106 im_Mod_lawsOf sl_Mod_Mod_lawsOf rfl wm_45 (r_Mod_lawsOf _ (t) rfl (by omega) (hz0 _ (by omega))) rfl rfl (by decide) rfl rfl (Nat.le_of_ble_eq_true rfl) ?_
        refine z_iload d_Mod_sorts_54 rfl 56 rfl ?_
        refine z_icmp_ne d_Mod_sorts_56 63 59 (by decide) rfl (fun h11 => ?_) (fun h11 => ?_)
        · refine z_iconst d_Mod_sorts_63 0 (by decide) 64 rfl ?_
          refine z_iadd d_Mod_sorts_64 65 rfl ?_
          refine z_istore d_Mod_sorts_65 67 rfl (by decide) rfl ?_
          refine z_iinc d_Mod_sorts_67 1 (by decide) 70 rfl rfl (by decide) rfl ?_
          refine z_goto d_Mod_sorts_70 35 (by decide) ?_
          exact z_L _ (by simp_all [List.set, nI_succ, sm, zb_eq, zb_ne]) ih
        · refine z_iconst d_Mod_sorts_59 1 (by decide) 60 rfl ?_
          refine z_goto d_Mod_sorts_60 64 (by decide) ?_
          refine z_iadd d_Mod_sorts_64 65 rfl ?_
          refine z_istore d_Mod_sorts_65 67 rfl (by decide) rfl ?_
          refine z_iinc d_Mod_sorts_67 1 (by decide) 70 rfl rfl (by decide) rfl ?_
          refine z_goto d_Mod_sorts_70 35 (by decide) ?_
          exact z_L _ (by simp_all [List.set, nI_succ, sm, zb_eq, zb_ne]) ih
  · refine z_aload_n d_Mod_sorts_8 rfl 9 rfl ?_
    refine z_bipush d_Mod_sorts_9 (-2) (by decide) 11 rfl ?_
    refine z_invv d_Mod_sorts_11 14 rfl hm_Mod_refuse lk_Mod_29 im_Mod_refuse sl_Mod_Mod_refuse rfl wm_45 (r_Mod_refuse (-2) 2 (by decide) (by decide)) rfl rfl (by decide) rfl rfl (Nat.le_of_ble_eq_true rfl) ?_
    exact z_ireturn d_Mod_sorts_14 (by simp_all [zb_eq, zb_ne, ← Int32.not_le]) (by simp_all [zb_eq, zb_ne, rfu, ← Int32.not_le])
set_option maxHeartbeats 400000 in
theorem r_Mod_leads {K : zKK} {rf s im mt rd sc : Nat → Int32} {tl : List zC} {n : Nat} (hn : s 0 = nI n) (hn30 : n ≤ 30) (hz0 : NZ s n) : Ret 5 0 0 m_Mod_leads [.ref 45] (wld K (rf, s, im, mt, rd, sc) tl) (some (.int (if askV s n = 0 then -9 else if askV s n = s 0 then -9 else (lbV s n 6).1))) (wld K (rf, s, im, mt, rd, sc) tl) := by
  refine Ret.of (n := 6) (by decide) (rfl) rfl (fun X => ?_)
  refine z_iconst d_Mod_leads_0 0 (by decide) 1 rfl ?_
  refine z_istore_n d_Mod_leads_1 2 rfl (by decide) rfl ?_
  refine z_iconst d_Mod_leads_2 0 (by decide) 3 rfl ?_
  refine z_istore_n d_Mod_leads_3 4 rfl (by decide) rfl ?_
  refine zloop (fun t => Z X m_Mod_leads 5 0 0 (some (.int (if askV s n = 0 then -9 else if askV s n = s 0 then -9 else (lbV s n 6).1))) (wld K (rf, s, im, mt, rd, sc) tl) 4 [some (.ref 45), some (.int (sm (fun t => s (6 + 6 * t + 5)) t)), some (.int (nI t)), none, none, none, none] [] (wld K (rf, s, im, mt, rd, sc) tl)) (n) ?_ ?_ 0 (Nat.zero_le _)
  · refine z_iload_n d_Mod_leads_4 rfl 5 rfl ?_
    refine z_aload_n d_Mod_leads_5 rfl 6 rfl ?_
    refine z_get d_Mod_leads_6 9 rfl fl_Mod_13_11 wm_45 rfl ?_
    refine z_iconst d_Mod_leads_9 0 (by decide) 10 rfl ?_
    refine z_iaload d_Mod_leads_10 (0) 11 rfl wm_47 (rfl) (by omega) (by decide) ?_
    refine z_icmp_ge d_Mod_leads_11 29 14 (by decide) rfl (fun h1 => ?_) (fun h => absurd (by rw [hn]; exact Int32.le_refl _) h)
    refine z_iload_n d_Mod_leads_29 rfl 30 rfl ?_
    refine z_if_eq d_Mod_leads_30 43 33 (by decide) rfl (fun h2 => ?_) (fun h2 => ?_)
    · have h0a : askV s n = 0 := h2
      refine z_bipush d_Mod_leads_43 (-9) (by decide) 45 rfl ?_
      exact z_ireturn d_Mod_leads_45 (by first | rw [if_pos h0a] | rw [if_neg h0a, if_pos h0c]) (rfl)
    · have h0a : ¬ askV s n = 0 := h2
      refine z_iload_n d_Mod_leads_33 rfl 34 rfl ?_
      refine z_aload_n d_Mod_leads_34 rfl 35 rfl ?_
      refine z_get d_Mod_leads_35 38 rfl fl_Mod_13_11 wm_45 rfl ?_
      refine z_iconst d_Mod_leads_38 0 (by decide) 39 rfl ?_
      refine z_iaload d_Mod_leads_39 (0) 40 rfl wm_47 (rfl) (by omega) (by decide) ?_
      refine z_icmp_ne d_Mod_leads_40 46 43 (by decide) rfl (fun h3 => ?_) (fun h3 => ?_)
      · have h0c : ¬ askV s n = s 0 := h3
        refine z_bipush d_Mod_leads_46 (-9) (by decide) 48 rfl ?_
        refine z_istore_n d_Mod_leads_48 49 rfl (by decide) rfl ?_
        refine z_iconst d_Mod_leads_49 0 (by decide) 50 rfl ?_
        refine z_istore_n d_Mod_leads_50 51 rfl (by decide) rfl ?_
        refine z_iconst d_Mod_leads_51 0 (by decide) 52 rfl ?_
        refine z_istore d_Mod_leads_52 54 rfl (by decide) rfl ?_
        have h0b : ¬ s 0 - askV s n = 0 := fun q => h0c (by have := congrArg (· + askV s n) q; simp only [Int32.sub_add_cancel, Int32.zero_add] at this; exact this.symm)
        refine zloop (fun l => Z X m_Mod_leads 5 0 0 (some (.int (if askV s n = 0 then -9 else if askV s n = s 0 then -9 else (lbV s n 6).1))) (wld K (rf, s, im, mt, rd, sc) tl) 54 [some (.ref 45), some (.int (askV s n)), some (.int ((lbV s n l).1)), some (.int ((lbV s n l).2)), some (.int (nI l)), none, none] [] (wld K (rf, s, im, mt, rd, sc) tl)) (6) ?_ ?_ 0 (Nat.zero_le _)
        · refine z_iload d_Mod_leads_54 rfl 56 rfl ?_
          refine z_bipush d_Mod_leads_56 6 (by decide) 58 rfl ?_
          refine z_icmp_ge d_Mod_leads_58 173 61 (by decide) rfl (fun h4 => ?_) (fun h => absurd (by decide) h)
          refine z_iload_n d_Mod_leads_173 rfl 174 rfl ?_
          exact z_ireturn d_Mod_leads_174 (by rw [if_neg h0a, if_neg h0c]) (rfl)
        · intro l hl ih
          have ih0 := ih
          refine z_iload d_Mod_leads_54 rfl 56 rfl ?_
          refine z_bipush d_Mod_leads_56 6 (by decide) 58 rfl ?_
          refine z_icmp_ge d_Mod_leads_58 173 61 (by decide) rfl (fun h => absurd h (show ¬ nI 6 ≤ nI l from nI_ge hl (by decide))) (fun h5 => ?_)
          refine z_iconst d_Mod_leads_61 0 (by decide) 62 rfl ?_
          refine z_istore d_Mod_leads_62 64 rfl (by decide) rfl ?_
          refine z_iconst d_Mod_leads_64 0 (by decide) 65 rfl ?_
          refine z_istore d_Mod_leads_65 67 rfl (by decide) rfl ?_
          refine zloop (fun t => Z X m_Mod_leads 5 0 0 (some (.int (if askV s n = 0 then -9 else if askV s n = s 0 then -9 else (lbV s n 6).1))) (wld K (rf, s, im, mt, rd, sc) tl) 67 [some (.ref 45), some (.int (askV s n)), some (.int ((lbV s n l).1)), some (.int ((lbV s n l).2)), some (.int (nI l)), some (.int (sm (fun t => if s (6 + 6 * t + 5) = 1 then (if fit s t l 0 = true then 1 else 0) else 0) t)), some (.int (nI t))] [] (wld K (rf, s, im, mt, rd, sc) tl)) (n) ?_ ?_ 0 (Nat.zero_le _)
          · refine z_iload d_Mod_leads_67 rfl 69 rfl ?_
            refine z_aload_n d_Mod_leads_69 rfl 70 rfl ?_
            refine z_get d_Mod_leads_70 73 rfl fl_Mod_13_11 wm_45 rfl ?_
            refine z_iconst d_Mod_leads_73 0 (by decide) 74 rfl ?_
            refine z_iaload d_Mod_leads_74 (0) 75 rfl wm_47 (rfl) (by omega) (by decide) ?_
            refine z_icmp_ge d_Mod_leads_75 117 78 (by decide) rfl (fun h6 => ?_) (fun h => absurd (by rw [hn]; exact Int32.le_refl _) h)
            refine z_bipush d_Mod_leads_117 100 (by decide) 119 rfl ?_
            refine z_iload d_Mod_leads_119 rfl 121 rfl ?_
            refine z_imul d_Mod_leads_121 122 rfl ?_
            refine z_iload_n d_Mod_leads_122 rfl 123 rfl ?_
            refine z_idiv d_Mod_leads_123 h0a 124 rfl ?_
            refine z_bipush d_Mod_leads_124 100 (by decide) 126 rfl ?_
            refine z_aload_n d_Mod_leads_126 rfl 127 rfl ?_
            refine z_iload d_Mod_leads_127 rfl 129 rfl ?_
            refine z_invv d_Mod_leads_129 132 rfl hm_Mod_seenOf lk_Mod_118 im_Mod_seenOf sl_Mod_Mod_seenOf rfl wm_45 (r_Mod_seenOf hn hn30 hz0 _ (l) rfl (by omega)) rfl rfl (by decide) rfl rfl (Nat.le_of_ble_eq_true rfl) ?_
            refine z_iload d_Mod_leads_132 rfl 134 rfl ?_
            refine z_isub d_Mod_leads_134 135 rfl ?_
            refine z_imul d_Mod_leads_135 136 rfl ?_
            refine z_aload_n d_Mod_leads_136 rfl 137 rfl ?_
            refine z_get d_Mod_leads_137 140 rfl fl_Mod_13_11 wm_45 rfl ?_
            refine z_iconst d_Mod_leads_140 0 (by decide) 141 rfl ?_
            refine z_iaload d_Mod_leads_141 (0) 142 rfl wm_47 (rfl) (by omega) (by decide) ?_
            refine z_iload_n d_Mod_leads_142 rfl 143 rfl ?_
            refine z_isub d_Mod_leads_143 144 rfl ?_
            refine z_idiv d_Mod_leads_144 h0b 145 rfl ?_
            refine z_isub d_Mod_leads_145 146 rfl ?_
            refine z_top (.int (ldV s n l)) rfl ?_
            refine z_istore d_Mod_leads_146 148 rfl (by decide) rfl ?_
            refine z_iload_n d_Mod_leads_148 rfl 149 rfl ?_
            refine z_if_lt d_Mod_leads_149 161 152 (by decide) rfl (fun h7 => ?_) (fun h7 => ?_)
            · have e3 : lbV s n (l + 1) = (nI l, ldV s n l) := by simp only [lbV]; rw [if_neg (fun q => absurd q.1 (Int32.not_le.mpr h7))]
              refine z_iload d_Mod_leads_161 rfl 163 rfl ?_
              refine z_istore_n d_Mod_leads_163 164 rfl (by decide) rfl ?_
              refine z_iload d_Mod_leads_164 rfl 166 rfl ?_
              refine z_istore_n d_Mod_leads_166 167 rfl (by decide) rfl ?_
              refine z_iinc d_Mod_leads_167 1 (by decide) 170 rfl rfl (by decide) rfl ?_
              refine z_goto d_Mod_leads_170 54 (by decide) ?_
              exact z_Lg _ ih0 (by rw [e3]; simp [zLw, List.set, nI_succ])
            · have e1 : 0 ≤ (lbV s n l).1 := Int32.not_lt.mp h7
              refine z_iload d_Mod_leads_152 rfl 154 rfl ?_
              refine z_iload_n d_Mod_leads_154 rfl 155 rfl ?_
              refine z_icmp_gt d_Mod_leads_155 161 158 (by decide) rfl (fun h8 => ?_) (fun h8 => ?_)
              · have e3 : lbV s n (l + 1) = (nI l, ldV s n l) := by simp only [lbV]; rw [if_neg (fun q => absurd q.2 (Int32.not_le.mpr h8))]
                refine z_iload d_Mod_leads_161 rfl 163 rfl ?_
                refine z_istore_n d_Mod_leads_163 164 rfl (by decide) rfl ?_
                refine z_iload d_Mod_leads_164 rfl 166 rfl ?_
                refine z_istore_n d_Mod_leads_166 167 rfl (by decide) rfl ?_
                refine z_iinc d_Mod_leads_167 1 (by decide) 170 rfl rfl (by decide) rfl ?_
                refine z_goto d_Mod_leads_170 54 (by decide) ?_
                exact z_Lg _ ih0 (by rw [e3]; simp [zLw, List.set, nI_succ])
              · have e3 : lbV s n (l + 1) = lbV s n l := by simp only [lbV]; rw [if_pos ⟨e1, Int32.not_lt.mp h8⟩]
                refine z_goto d_Mod_leads_158 167 (by decide) ?_
                refine z_iinc d_Mod_leads_167 1 (by decide) 170 rfl rfl (by decide) rfl ?_
                refine z_goto d_Mod_leads_170 54 (by decide) ?_
                exact z_Lg _ ih0 (by rw [e3]; simp [zLw, List.set, nI_succ])
          · intro t ht ih
            refine z_iload d_Mod_leads_67 rfl 69 rfl ?_
            refine z_aload_n d_Mod_leads_69 rfl 70 rfl ?_
            refine z_get d_Mod_leads_70 73 rfl fl_Mod_13_11 wm_45 rfl ?_
            refine z_iconst d_Mod_leads_73 0 (by decide) 74 rfl ?_
            refine z_iaload d_Mod_leads_74 (0) 75 rfl wm_47 (rfl) (by omega) (by decide) ?_
            refine z_icmp_ge d_Mod_leads_75 117 78 (by decide) rfl (fun h => absurd h (by rw [hn]; exact nI_ge ht (by omega))) (fun h9 => ?_)
            refine z_iload d_Mod_leads_78 rfl 80 rfl ?_
            refine z_aload_n d_Mod_leads_80 rfl 81 rfl ?_
            refine z_iload d_Mod_leads_81 rfl 83 rfl ?_
            refine z_iconst d_Mod_leads_83 5 (by decide) 84 rfl ?_
            refine z_invv d_Mod_leads_84 87 rfl hm_Mod_get lk_Mod_66 im_Mod_get sl_Mod_Mod_get rfl wm_45 (r_Mod_get _ _ (t) (5) rfl rfl (by omega)) rfl rfl (by decide) rfl rfl (Nat.le_of_ble_eq_true rfl) ?_
            refine z_iconst d_Mod_leads_87 1 (by decide) 88 rfl ?_
            refine z_icmp_ne d_Mod_leads_88 107 91 (by decide) rfl (fun h10 => ?_) (fun h10 => ?_)
            · refine z_iconst d_Mod_leads_107 0 (by decide) 108 rfl ?_
              refine z_iadd d_Mod_leads_108 109 rfl ?_
              refine z_istore d_Mod_leads_109 111 rfl (by decide) rfl ?_
              refine z_iinc d_Mod_leads_111 1 (by decide) 114 rfl rfl (by decide) rfl ?_
              refine z_goto d_Mod_leads_114 67 (by decide) ?_
              exact z_L _ (by simp_all [List.set, nI_succ, sm, zb_eq, zb_ne]) ih
            · refine z_aload_n d_Mod_leads_91 rfl 92 rfl ?_
              refine z_iload d_Mod_leads_92 rfl 94 rfl ?_
              refine z_iload d_Mod_leads_94 rfl 96 rfl ?_
              refine z_iconst d_Mod_leads_96 0 (by decide) 97 rfl ?_
              refine z_invv d_Mod_leads_97 100 rfl hm_Mod_isFit lk_Mod_96 im_Mod_isFit sl_Mod_Mod_isFit rfl wm_45 (r_Mod_isFit _ _ _ (t) (l) rfl rfl (by omega) (by omega) (hz0 _ (by omega))) rfl rfl (by decide) rfl rfl (Nat.le_of_ble_eq_true rfl) ?_
              refine z_if_eq d_Mod_leads_100 107 103 (by decide) rfl (fun h11 => ?_) (fun h11 => ?_)
              · refine z_iconst d_Mod_leads_107 0 (by decide) 108 rfl ?_
                refine z_iadd d_Mod_leads_108 109 rfl ?_
                refine z_istore d_Mod_leads_109 111 rfl (by decide) rfl ?_
                refine z_iinc d_Mod_leads_111 1 (by decide) 114 rfl rfl (by decide) rfl ?_
                refine z_goto d_Mod_leads_114 67 (by decide) ?_
                exact z_L _ (by simp_all [List.set, nI_succ, sm, zb_eq, zb_ne]) ih
              · refine z_iconst d_Mod_leads_103 1 (by decide) 104 rfl ?_
                refine z_goto d_Mod_leads_104 108 (by decide) ?_
                refine z_iadd d_Mod_leads_108 109 rfl ?_
                refine z_istore d_Mod_leads_109 111 rfl (by decide) rfl ?_
                refine z_iinc d_Mod_leads_111 1 (by decide) 114 rfl rfl (by decide) rfl ?_
                refine z_goto d_Mod_leads_114 67 (by decide) ?_
                exact z_L _ (by simp_all [List.set, nI_succ, sm, zb_eq, zb_ne]) ih
      · have h0c : askV s n = s 0 := h3
        refine z_bipush d_Mod_leads_43 (-9) (by decide) 45 rfl ?_
        exact z_ireturn d_Mod_leads_45 (by first | rw [if_pos h0a] | rw [if_neg h0a, if_pos h0c]) (rfl)
  · intro t ht ih
    refine z_iload_n d_Mod_leads_4 rfl 5 rfl ?_
    refine z_aload_n d_Mod_leads_5 rfl 6 rfl ?_
    refine z_get d_Mod_leads_6 9 rfl fl_Mod_13_11 wm_45 rfl ?_
    refine z_iconst d_Mod_leads_9 0 (by decide) 10 rfl ?_
    refine z_iaload d_Mod_leads_10 (0) 11 rfl wm_47 (rfl) (by omega) (by decide) ?_
    refine z_icmp_ge d_Mod_leads_11 29 14 (by decide) rfl (fun h => absurd h (by rw [hn]; exact nI_ge ht (by omega))) (fun h12 => ?_)
    refine z_iload_n d_Mod_leads_14 rfl 15 rfl ?_
    refine z_aload_n d_Mod_leads_15 rfl 16 rfl ?_
    refine z_iload_n d_Mod_leads_16 rfl 17 rfl ?_
    refine z_iconst d_Mod_leads_17 5 (by decide) 18 rfl ?_
    refine z_invv d_Mod_leads_18 21 rfl hm_Mod_get lk_Mod_66 im_Mod_get sl_Mod_Mod_get rfl wm_45 (r_Mod_get _ _ (t) (5) rfl rfl (by omega)) rfl rfl (by decide) rfl rfl (Nat.le_of_ble_eq_true rfl) ?_
    refine z_iadd d_Mod_leads_21 22 rfl ?_
    refine z_istore_n d_Mod_leads_22 23 rfl (by decide) rfl ?_
    refine z_iinc d_Mod_leads_23 1 (by decide) 26 rfl rfl (by decide) rfl ?_
    refine z_goto d_Mod_leads_26 4 (by decide) ?_
    exact z_Lw _ (by simp [zLw, List.set, nI_succ, sm]) ih
set_option maxHeartbeats 400000 in
theorem r_Mod_count_0 {K : zKK} {rf s im mt rd sc : Nat → Int32} {tl : List zC} {n : Nat} (hn : s 0 = nI n) (hn30 : n ≤ 30) (hmk : ∀ t, t < n → s (6 + 6 * t + 3) = nI (ix (s (6 + 6 * t + 3))) ∧ ix (s (6 + 6 * t + 3)) < 2 ^ 8) : Ret 1 0 0 m_Mod_count [.ref 45, .int 0] (wld K (rf, s, im, mt, rd, sc) tl) (some (.int (s 0))) (wld K (rf, s, im, mt, rd, sc) tl) := by
  refine Ret.of (n := 3) (by decide) (rfl) rfl (fun X => ?_)
  refine z_iload_n d_Mod_count_0 rfl 1 rfl ?_
  refine z_bipush d_Mod_count_1 10 (by decide) 3 rfl ?_
  refine z_icmp_le d_Mod_count_3 22 6 (by decide) rfl (fun h1 => ?_) (fun h => absurd (by decide) h)
  refine z_iconst d_Mod_count_22 0 (by decide) 23 rfl ?_
  refine z_istore_n d_Mod_count_23 24 rfl (by decide) rfl ?_
  refine z_iload_n d_Mod_count_24 rfl 25 rfl ?_
  refine z_tabIn (off := 39) d_Mod_count_25 64 (by decide) (by decide) (by decide) (by decide) ?_
  refine z_aload_n d_Mod_count_64 rfl 65 rfl ?_
  refine z_get d_Mod_count_65 68 rfl fl_Mod_13_11 wm_45 rfl ?_
  refine z_iconst d_Mod_count_68 0 (by decide) 69 rfl ?_
  refine z_iaload d_Mod_count_69 (0) 70 rfl wm_47 (rfl) (by omega) (by decide) ?_
  exact z_ireturn d_Mod_count_70 (rfl) (rfl)
set_option maxHeartbeats 400000 in
theorem r_Mod_count_1 {K : zKK} {rf s im mt rd sc : Nat → Int32} {tl : List zC} {n : Nat} (hn : s 0 = nI n) (hn30 : n ≤ 30) (hmk : ∀ t, t < n → s (6 + 6 * t + 3) = nI (ix (s (6 + 6 * t + 3))) ∧ ix (s (6 + 6 * t + 3)) < 2 ^ 8) : Ret 1 0 0 m_Mod_count [.ref 45, .int 1] (wld K (rf, s, im, mt, rd, sc) tl) (some (.int (askV s n))) (wld K (rf, s, im, mt, rd, sc) tl) := by
  refine Ret.of (n := 3) (by decide) (rfl) rfl (fun X => ?_)
  refine z_iload_n d_Mod_count_0 rfl 1 rfl ?_
  refine z_bipush d_Mod_count_1 10 (by decide) 3 rfl ?_
  refine z_icmp_le d_Mod_count_3 22 6 (by decide) rfl (fun h1 => ?_) (fun h => absurd (by decide) h)
  refine z_iconst d_Mod_count_22 0 (by decide) 23 rfl ?_
  refine z_istore_n d_Mod_count_23 24 rfl (by decide) rfl ?_
  refine z_iload_n d_Mod_count_24 rfl 25 rfl ?_
  refine z_tabIn (off := 46) d_Mod_count_25 71 (by decide) (by decide) (by decide) (by decide) ?_
  refine z_iconst d_Mod_count_71 0 (by decide) 72 rfl ?_
  refine z_istore_n d_Mod_count_72 73 rfl (by decide) rfl ?_
  refine zloop (fun t => Z X m_Mod_count 1 0 0 (some (.int (askV s n))) (wld K (rf, s, im, mt, rd, sc) tl) 73 [some (.ref 45), some (.int (1)), some (.int (sm (fun t => s (6 + 6 * t + 5)) t)), some (.int (nI t)), none] [] (wld K (rf, s, im, mt, rd, sc) tl)) (n) ?_ ?_ 0 (Nat.zero_le _)
  · refine z_iload_n d_Mod_count_73 rfl 74 rfl ?_
    refine z_aload_n d_Mod_count_74 rfl 75 rfl ?_
    refine z_get d_Mod_count_75 78 rfl fl_Mod_13_11 wm_45 rfl ?_
    refine z_iconst d_Mod_count_78 0 (by decide) 79 rfl ?_
    refine z_iaload d_Mod_count_79 (0) 80 rfl wm_47 (rfl) (by omega) (by decide) ?_
    refine z_icmp_ge d_Mod_count_80 98 83 (by decide) rfl (fun h2 => ?_) (fun h => absurd (by rw [hn]; exact Int32.le_refl _) h)
    refine z_iload_n d_Mod_count_98 rfl 99 rfl ?_
    exact z_ireturn d_Mod_count_99 (rfl) (rfl)
  · intro t ht ih
    refine z_iload_n d_Mod_count_73 rfl 74 rfl ?_
    refine z_aload_n d_Mod_count_74 rfl 75 rfl ?_
    refine z_get d_Mod_count_75 78 rfl fl_Mod_13_11 wm_45 rfl ?_
    refine z_iconst d_Mod_count_78 0 (by decide) 79 rfl ?_
    refine z_iaload d_Mod_count_79 (0) 80 rfl wm_47 (rfl) (by omega) (by decide) ?_
    refine z_icmp_ge d_Mod_count_80 98 83 (by decide) rfl (fun h => absurd h (by rw [hn]; exact nI_ge ht (by omega))) (fun h3 => ?_)
    refine z_iload_n d_Mod_count_83 rfl 84 rfl ?_
    refine z_aload_n d_Mod_count_84 rfl 85 rfl ?_
    refine z_iload_n d_Mod_count_85 rfl 86 rfl ?_
    refine z_iconst d_Mod_count_86 5 (by decide) 87 rfl ?_
    refine z_invv d_Mod_count_87 90 rfl hm_Mod_get lk_Mod_66 im_Mod_get sl_Mod_Mod_get rfl wm_45 (r_Mod_get _ _ (t) (5) rfl rfl (by omega)) rfl rfl (by decide) rfl rfl (Nat.le_of_ble_eq_true rfl) ?_
    refine z_iadd d_Mod_count_90 91 rfl ?_
    refine z_istore_n d_Mod_count_91 92 rfl (by decide) rfl ?_
    refine z_iinc d_Mod_count_92 1 (by decide) 95 rfl rfl (by decide) rfl ?_
    refine z_goto d_Mod_count_95 73 (by decide) ?_
    exact z_Lw _ (by simp [zLw, List.set, nI_succ, sm]) ih
set_option maxHeartbeats 400000 in
theorem r_Mod_count_2 {K : zKK} {rf s im mt rd sc : Nat → Int32} {tl : List zC} {n : Nat} (hn : s 0 = nI n) (hn30 : n ≤ 30) (hmk : ∀ t, t < n → s (6 + 6 * t + 3) = nI (ix (s (6 + 6 * t + 3))) ∧ ix (s (6 + 6 * t + 3)) < 2 ^ 8) : Ret 1 0 0 m_Mod_count [.ref 45, .int 2] (wld K (rf, s, im, mt, rd, sc) tl) (some (.int (s 1))) (wld K (rf, s, im, mt, rd, sc) tl) := by
  refine Ret.of (n := 3) (by decide) (rfl) rfl (fun X => ?_)
  refine z_iload_n d_Mod_count_0 rfl 1 rfl ?_
  refine z_bipush d_Mod_count_1 10 (by decide) 3 rfl ?_
  refine z_icmp_le d_Mod_count_3 22 6 (by decide) rfl (fun h1 => ?_) (fun h => absurd (by decide) h)
  refine z_iconst d_Mod_count_22 0 (by decide) 23 rfl ?_
  refine z_istore_n d_Mod_count_23 24 rfl (by decide) rfl ?_
  refine z_iload_n d_Mod_count_24 rfl 25 rfl ?_
  refine z_tabIn (off := 75) d_Mod_count_25 100 (by decide) (by decide) (by decide) (by decide) ?_
  refine z_aload_n d_Mod_count_100 rfl 101 rfl ?_
  refine z_get d_Mod_count_101 104 rfl fl_Mod_13_11 wm_45 rfl ?_
  refine z_iconst d_Mod_count_104 1 (by decide) 105 rfl ?_
  refine z_iaload d_Mod_count_105 (1) 106 rfl wm_47 (rfl) (by omega) (by decide) ?_
  exact z_ireturn d_Mod_count_106 (rfl) (rfl)
set_option maxHeartbeats 400000 in
theorem r_Mod_count_3 {K : zKK} {rf s im mt rd sc : Nat → Int32} {tl : List zC} {n : Nat} (hn : s 0 = nI n) (hn30 : n ≤ 30) (hmk : ∀ t, t < n → s (6 + 6 * t + 3) = nI (ix (s (6 + 6 * t + 3))) ∧ ix (s (6 + 6 * t + 3)) < 2 ^ 8) : Ret 1 0 0 m_Mod_count [.ref 45, .int 3] (wld K (rf, s, im, mt, rd, sc) tl) (some (.int (sm (fun t => sm (fun k => if s (6 + 6 * t + k) < 0 then 1 else 0) 3) n))) (wld K (rf, s, im, mt, rd, sc) tl) := by
  refine Ret.of (n := 3) (by decide) (rfl) rfl (fun X => ?_)
  refine z_iload_n d_Mod_count_0 rfl 1 rfl ?_
  refine z_bipush d_Mod_count_1 10 (by decide) 3 rfl ?_
  refine z_icmp_le d_Mod_count_3 22 6 (by decide) rfl (fun h1 => ?_) (fun h => absurd (by decide) h)
  refine z_iconst d_Mod_count_22 0 (by decide) 23 rfl ?_
  refine z_istore_n d_Mod_count_23 24 rfl (by decide) rfl ?_
  refine z_iload_n d_Mod_count_24 rfl 25 rfl ?_
  refine z_tabIn (off := 82) d_Mod_count_25 107 (by decide) (by decide) (by decide) (by decide) ?_
  refine z_iconst d_Mod_count_107 0 (by decide) 108 rfl ?_
  refine z_istore_n d_Mod_count_108 109 rfl (by decide) rfl ?_
  refine zloop (fun t => Z X m_Mod_count 1 0 0 (some (.int (sm (fun t => sm (fun k => if s (6 + 6 * t + k) < 0 then 1 else 0) 3) n))) (wld K (rf, s, im, mt, rd, sc) tl) 109 [some (.ref 45), some (.int (3)), some (.int (sm (fun t => sm (fun k => if s (6 + 6 * t + k) < 0 then 1 else 0) 3) t)), some (.int (nI t)), none] [] (wld K (rf, s, im, mt, rd, sc) tl)) (n) ?_ ?_ 0 (Nat.zero_le _)
  · refine z_iload_n d_Mod_count_109 rfl 110 rfl ?_
    refine z_aload_n d_Mod_count_110 rfl 111 rfl ?_
    refine z_get d_Mod_count_111 114 rfl fl_Mod_13_11 wm_45 rfl ?_
    refine z_iconst d_Mod_count_114 0 (by decide) 115 rfl ?_
    refine z_iaload d_Mod_count_115 (0) 116 rfl wm_47 (rfl) (by omega) (by decide) ?_
    refine z_icmp_ge d_Mod_count_116 158 119 (by decide) rfl (fun h2 => ?_) (fun h => absurd (by rw [hn]; exact Int32.le_refl _) h)
    refine z_iload_n d_Mod_count_158 rfl 159 rfl ?_
    exact z_ireturn d_Mod_count_159 (rfl) (rfl)
  · intro t ht ih
    have ih0 := ih
    refine z_iload_n d_Mod_count_109 rfl 110 rfl ?_
    refine z_aload_n d_Mod_count_110 rfl 111 rfl ?_
    refine z_get d_Mod_count_111 114 rfl fl_Mod_13_11 wm_45 rfl ?_
    refine z_iconst d_Mod_count_114 0 (by decide) 115 rfl ?_
    refine z_iaload d_Mod_count_115 (0) 116 rfl wm_47 (rfl) (by omega) (by decide) ?_
    refine z_icmp_ge d_Mod_count_116 158 119 (by decide) rfl (fun h => absurd h (by rw [hn]; exact nI_ge ht (by omega))) (fun h3 => ?_)
    refine z_iconst d_Mod_count_119 0 (by decide) 120 rfl ?_
    refine z_istore d_Mod_count_120 122 rfl (by decide) rfl ?_
    refine z_L ([some (.ref 45), some (.int (3)), some (.int (sm (fun t => sm (fun k => if s (6 + 6 * t + k) < 0 then 1 else 0) 3) t + sm (fun k => if s (6 + 6 * t + k) < 0 then 1 else 0) 0)), some (.int (nI t)), some (.int (nI 0))]) (by simp [List.set, sm, nI_0]) ?_
    refine zloop (fun k => Z X m_Mod_count 1 0 0 (some (.int (sm (fun t => sm (fun k => if s (6 + 6 * t + k) < 0 then 1 else 0) 3) n))) (wld K (rf, s, im, mt, rd, sc) tl) 122 [some (.ref 45), some (.int (3)), some (.int (sm (fun t => sm (fun k => if s (6 + 6 * t + k) < 0 then 1 else 0) 3) t + sm (fun k => if s (6 + 6 * t + k) < 0 then 1 else 0) k)), some (.int (nI t)), some (.int (nI k))] [] (wld K (rf, s, im, mt, rd, sc) tl)) (3) ?_ ?_ 0 (Nat.zero_le _)
    · refine z_iload d_Mod_count_122 rfl 124 rfl ?_
      refine z_iconst d_Mod_count_124 3 (by decide) 125 rfl ?_
      refine z_icmp_ge d_Mod_count_125 152 128 (by decide) rfl (fun h4 => ?_) (fun h => absurd (by decide) h)
      refine z_iinc d_Mod_count_152 1 (by decide) 155 rfl rfl (by decide) rfl ?_
      refine z_goto d_Mod_count_155 109 (by decide) ?_
      exact z_Lg _ ih0 (by simp [zLw, List.set, nI_succ, sm])
    · intro k hk ih
      refine z_iload d_Mod_count_122 rfl 124 rfl ?_
      refine z_iconst d_Mod_count_124 3 (by decide) 125 rfl ?_
      refine z_icmp_ge d_Mod_count_125 152 128 (by decide) rfl (fun h => absurd h (show ¬ nI 3 ≤ nI k from nI_ge hk (by decide))) (fun h5 => ?_)
      refine z_iload_n d_Mod_count_128 rfl 129 rfl ?_
      refine z_aload_n d_Mod_count_129 rfl 130 rfl ?_
      refine z_iload_n d_Mod_count_130 rfl 131 rfl ?_
      refine z_iload d_Mod_count_131 rfl 133 rfl ?_
      refine z_invv d_Mod_count_133 136 rfl hm_Mod_get lk_Mod_66 im_Mod_get sl_Mod_Mod_get rfl wm_45 (r_Mod_get _ _ (t) (k) rfl rfl (by omega)) rfl rfl (by decide) rfl rfl (Nat.le_of_ble_eq_true rfl) ?_
      refine z_if_ge d_Mod_count_136 143 139 (by decide) rfl (fun h6 => ?_) (fun h6 => ?_)
      · have e1 : ¬ s (6 + 6 * t + k) < 0 := Int32.not_lt.mpr h6
        refine z_iconst d_Mod_count_143 0 (by decide) 144 rfl ?_
        refine z_iadd d_Mod_count_144 145 rfl ?_
        refine z_istore_n d_Mod_count_145 146 rfl (by decide) rfl ?_
        refine z_iinc d_Mod_count_146 1 (by decide) 149 rfl rfl (by decide) rfl ?_
        refine z_goto d_Mod_count_149 122 (by decide) ?_
        exact z_L _ (by first | (simp [List.set, nI_succ, sm, e1, Int32.add_assoc]; done)) ih
      · have e1 : s (6 + 6 * t + k) < 0 := Int32.not_le.mp h6
        refine z_iconst d_Mod_count_139 1 (by decide) 140 rfl ?_
        refine z_goto d_Mod_count_140 144 (by decide) ?_
        refine z_iadd d_Mod_count_144 145 rfl ?_
        refine z_istore_n d_Mod_count_145 146 rfl (by decide) rfl ?_
        refine z_iinc d_Mod_count_146 1 (by decide) 149 rfl rfl (by decide) rfl ?_
        refine z_goto d_Mod_count_149 122 (by decide) ?_
        exact z_L _ (by first | (simp [List.set, nI_succ, sm, e1, Int32.add_assoc]; done)) ih
set_option maxHeartbeats 400000 in
theorem r_Mod_count_4 {K : zKK} {rf s im mt rd sc : Nat → Int32} {tl : List zC} {n : Nat} (hn : s 0 = nI n) (hn30 : n ≤ 30) (hmk : ∀ t, t < n → s (6 + 6 * t + 3) = nI (ix (s (6 + 6 * t + 3))) ∧ ix (s (6 + 6 * t + 3)) < 2 ^ 8) : Ret 1 0 0 m_Mod_count [.ref 45, .int 4] (wld K (rf, s, im, mt, rd, sc) tl) (some (.int (sm (fun t => nI (pop 8 (ix (s (6 + 6 * t + 3))))) n))) (wld K (rf, s, im, mt, rd, sc) tl) := by
  refine Ret.of (n := 3) (by decide) (rfl) rfl (fun X => ?_)
  refine z_iload_n d_Mod_count_0 rfl 1 rfl ?_
  refine z_bipush d_Mod_count_1 10 (by decide) 3 rfl ?_
  refine z_icmp_le d_Mod_count_3 22 6 (by decide) rfl (fun h1 => ?_) (fun h => absurd (by decide) h)
  refine z_iconst d_Mod_count_22 0 (by decide) 23 rfl ?_
  refine z_istore_n d_Mod_count_23 24 rfl (by decide) rfl ?_
  refine z_iload_n d_Mod_count_24 rfl 25 rfl ?_
  refine z_tabIn (off := 135) d_Mod_count_25 160 (by decide) (by decide) (by decide) (by decide) ?_
  refine z_iconst d_Mod_count_160 0 (by decide) 161 rfl ?_
  refine z_istore_n d_Mod_count_161 162 rfl (by decide) rfl ?_
  refine zloop (fun t => Z X m_Mod_count 1 0 0 (some (.int (sm (fun t => nI (pop 8 (ix (s (6 + 6 * t + 3))))) n))) (wld K (rf, s, im, mt, rd, sc) tl) 162 [some (.ref 45), some (.int (4)), some (.int (sm (fun t => nI (pop 8 (ix (s (6 + 6 * t + 3))))) t)), some (.int (nI t)), none] [] (wld K (rf, s, im, mt, rd, sc) tl)) (n) ?_ ?_ 0 (Nat.zero_le _)
  · refine z_iload_n d_Mod_count_162 rfl 163 rfl ?_
    refine z_aload_n d_Mod_count_163 rfl 164 rfl ?_
    refine z_get d_Mod_count_164 167 rfl fl_Mod_13_11 wm_45 rfl ?_
    refine z_iconst d_Mod_count_167 0 (by decide) 168 rfl ?_
    refine z_iaload d_Mod_count_168 (0) 169 rfl wm_47 (rfl) (by omega) (by decide) ?_
    refine z_icmp_ge d_Mod_count_169 190 172 (by decide) rfl (fun h2 => ?_) (fun h => absurd (by rw [hn]; exact Int32.le_refl _) h)
    refine z_iload_n d_Mod_count_190 rfl 191 rfl ?_
    exact z_ireturn d_Mod_count_191 (rfl) (rfl)
  · intro t ht ih
    refine z_iload_n d_Mod_count_162 rfl 163 rfl ?_
    refine z_aload_n d_Mod_count_163 rfl 164 rfl ?_
    refine z_get d_Mod_count_164 167 rfl fl_Mod_13_11 wm_45 rfl ?_
    refine z_iconst d_Mod_count_167 0 (by decide) 168 rfl ?_
    refine z_iaload d_Mod_count_168 (0) 169 rfl wm_47 (rfl) (by omega) (by decide) ?_
    refine z_icmp_ge d_Mod_count_169 190 172 (by decide) rfl (fun h => absurd h (by rw [hn]; exact nI_ge ht (by omega))) (fun h3 => ?_)
    refine z_iload_n d_Mod_count_172 rfl 173 rfl ?_
    refine z_aload_n d_Mod_count_173 rfl 174 rfl ?_
    refine z_iload_n d_Mod_count_174 rfl 175 rfl ?_
    refine z_iconst d_Mod_count_175 3 (by decide) 176 rfl ?_
    refine z_invv d_Mod_count_176 179 rfl hm_Mod_get lk_Mod_66 im_Mod_get sl_Mod_Mod_get rfl wm_45 (r_Mod_get _ _ (t) (3) rfl rfl (by omega)) rfl rfl (by decide) rfl rfl (Nat.le_of_ble_eq_true rfl) ?_
    refine z_invs d_Mod_count_179 182 rfl hm_Mod_bits lk_Mod_109 st_Mod_bits (r_Mod_bits _ 8 _ (hmk t ht).1 (hmk t ht).2 (by decide)) rfl rfl (by decide) rfl rfl (Nat.le_of_ble_eq_true rfl) ?_
    refine z_iadd d_Mod_count_182 183 rfl ?_
    refine z_istore_n d_Mod_count_183 184 rfl (by decide) rfl ?_
    refine z_iinc d_Mod_count_184 1 (by decide) 187 rfl rfl (by decide) rfl ?_
    refine z_goto d_Mod_count_187 162 (by decide) ?_
    exact z_Lw _ (by simp [zLw, List.set, nI_succ, sm]) ih
set_option maxHeartbeats 400000 in
theorem r_Mod_count_5 {K : zKK} {rf s im mt rd sc : Nat → Int32} {tl : List zC} {n : Nat} (hn : s 0 = nI n) (hn30 : n ≤ 30) (hmk : ∀ t, t < n → s (6 + 6 * t + 3) = nI (ix (s (6 + 6 * t + 3))) ∧ ix (s (6 + 6 * t + 3)) < 2 ^ 8) : Ret 1 0 0 m_Mod_count [.ref 45, .int 5] (wld K (rf, s, im, mt, rd, sc) tl) (some (.int (sc 1))) (wld K (rf, s, im, mt, rd, sc) tl) := by
  refine Ret.of (n := 3) (by decide) (rfl) rfl (fun X => ?_)
  refine z_iload_n d_Mod_count_0 rfl 1 rfl ?_
  refine z_bipush d_Mod_count_1 10 (by decide) 3 rfl ?_
  refine z_icmp_le d_Mod_count_3 22 6 (by decide) rfl (fun h1 => ?_) (fun h => absurd (by decide) h)
  refine z_iconst d_Mod_count_22 0 (by decide) 23 rfl ?_
  refine z_istore_n d_Mod_count_23 24 rfl (by decide) rfl ?_
  refine z_iload_n d_Mod_count_24 rfl 25 rfl ?_
  refine z_tabIn (off := 167) d_Mod_count_25 192 (by decide) (by decide) (by decide) (by decide) ?_
  refine z_aload_n d_Mod_count_192 rfl 193 rfl ?_
  refine z_get d_Mod_count_193 196 rfl fl_Mod_33_11 wm_45 rfl ?_
  exact z_ireturn d_Mod_count_196 (rfl) (rfl)
set_option maxHeartbeats 400000 in
theorem r_Mod_count_r {K : zKK} {rf s im mt rd sc : Nat → Int32} {tl : List zC} (j : Nat) (hj : j < 6) : Ret 1 0 0 m_Mod_count [.ref 45, .int (nI (11 + j))] (wld K (rf, s, im, mt, rd, sc) tl) (some (.int (rf (1 + j)))) (wld K (rf, s, im, mt, rd, sc) tl) := by
  refine Ret.of (n := 3) (by decide) (rfl) rfl (fun X => ?_)
  refine z_iload_n d_Mod_count_0 rfl 1 rfl ?_
  refine z_bipush d_Mod_count_1 10 (by decide) 3 rfl ?_
  refine z_icmp_le d_Mod_count_3 22 6 (by decide) rfl (fun h => absurd h (show ¬ nI (11 + j) ≤ nI 10 from nI_ge (by omega) (by omega))) (fun h1 => ?_)
  refine z_iload_n d_Mod_count_6 rfl 7 rfl ?_
  refine z_bipush d_Mod_count_7 17 (by decide) 9 rfl ?_
  refine z_icmp_ge d_Mod_count_9 22 12 (by decide) rfl (fun h => absurd h (show ¬ nI 17 ≤ nI (11 + j) from nI_ge (by omega) (by decide))) (fun h2 => ?_)
  refine z_aload_n d_Mod_count_12 rfl 13 rfl ?_
  refine z_get d_Mod_count_13 16 rfl fl_Mod_7_11 wm_45 rfl ?_
  refine z_iload_n d_Mod_count_16 rfl 17 rfl ?_
  refine z_bipush d_Mod_count_17 10 (by decide) 19 rfl ?_
  refine z_isub d_Mod_count_19 20 rfl ?_
  refine z_iaload d_Mod_count_20 (1 + j) 21 rfl wm_46 (by show nI (11 + j) - nI 10 = _; rw [pk_sub (by omega)]; congr 1; omega) (by omega) (by decide) ?_
  exact z_ireturn d_Mod_count_21 (rfl) (rfl)
set_option maxHeartbeats 400000 in
theorem r_Mod_count_o {K : zKK} {rf s im mt rd sc : Nat → Int32} {tl : List zC} (w : Int32) (hw : w.toInt < 0 ∨ 5 < w.toInt) (h17 : ¬ w ≤ 10 → 17 ≤ w) : Ret 1 0 0 m_Mod_count [.ref 45, .int w] (wld K (rf, s, im, mt, rd, sc) tl) (some (.int (-9))) (wld K (rf, s, im, mt, rd, sc) tl) := by
  refine Ret.of (n := 3) (by decide) (rfl) rfl (fun X => ?_)
  refine z_iload_n d_Mod_count_0 rfl 1 rfl ?_
  refine z_bipush d_Mod_count_1 10 (by decide) 3 rfl ?_
  refine z_icmp_le d_Mod_count_3 22 6 (by decide) rfl (fun h1 => ?_) (fun h1 => ?_)
  · refine z_iconst d_Mod_count_22 0 (by decide) 23 rfl ?_
    refine z_istore_n d_Mod_count_23 24 rfl (by decide) rfl ?_
    refine z_iload_n d_Mod_count_24 rfl 25 rfl ?_
    refine z_tabOut d_Mod_count_25 197 hw (by decide) ?_
    refine z_bipush d_Mod_count_197 (-9) (by decide) 199 rfl ?_
    exact z_ireturn d_Mod_count_199 (rfl) (rfl)
  · refine z_iload_n d_Mod_count_6 rfl 7 rfl ?_
    refine z_bipush d_Mod_count_7 17 (by decide) 9 rfl ?_
    refine z_icmp_ge d_Mod_count_9 22 12 (by decide) rfl (fun h2 => ?_) (fun h2 => ?_)
    · refine z_iconst d_Mod_count_22 0 (by decide) 23 rfl ?_
      refine z_istore_n d_Mod_count_23 24 rfl (by decide) rfl ?_
      refine z_iload_n d_Mod_count_24 rfl 25 rfl ?_
      refine z_tabOut d_Mod_count_25 197 hw (by decide) ?_
      refine z_bipush d_Mod_count_197 (-9) (by decide) 199 rfl ?_
      exact z_ireturn d_Mod_count_199 (rfl) (rfl)
    · exact absurd (h17 h1) h2
