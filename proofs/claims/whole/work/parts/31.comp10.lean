def smF (C : Nat → Nat → Int32) (g : Nat → Int32) (rt : Int32) (s : Nat → Int32) (n l : Nat) : Int32 := sm (fun i => if bk C g rt s i l = 0 then 1 else 0) n
def smA (C : Nat → Nat → Int32) (g : Nat → Int32) (rt : Int32) (s : Nat → Int32) (n l : Nat) : Int32 := sm (fun i => if s (6 + 6 * i + 5) = 0 then 0 else (if bk C g rt s i l = 0 then 1 else 0)) n
def smK (s : Nat → Int32) (n : Nat) : Int32 := sm (fun i => if s (6 + 6 * i + 5) = 0 then 0 else 1) n
def h100 (x y : Int32) : Int32 := if y < 1 then 0 else 100 * x / y
def ldC (C : Nat → Nat → Int32) (g : Nat → Int32) (rt : Int32) (s : Nat → Int32) (n : Nat) (c : Int32) (l : Nat) : Int32 := h100 (smA C g rt s n l) (smK s n) - h100 (smF C g rt s n l - smA C g rt s n l) (c - smK s n)
def lbC (C : Nat → Nat → Int32) (g : Nat → Int32) (rt : Int32) (s : Nat → Int32) (n : Nat) (c : Int32) : Nat → Int32 × Int32
  | 0 => (-9, 0)
  | l + 1 => if (lbC C g rt s n c l).1 = -9 then (nI l, ldC C g rt s n c l) else if ldC C g rt s n c l ≤ (lbC C g rt s n c l).2 then lbC C g rt s n c l else (nI l, ldC C g rt s n c l)
set_option maxHeartbeats 400000 in
theorem r_Lir_leads {tk : Int32} {tp bt crf nt : Nat → Int32} {T PF PS : Nat → Option Nat} {C : Nat → Nat → Int32} {rc g pp bn sc : Nat → Int32} {b : zR} {u : zU} {tl : List zC} {s : Nat → Int32} {n : Nat} (hn : sc 0 = nI n) (hn30 : n ≤ 30) (hTT : TT tl T s n) : Ret 6 0 0 m_Lir_leads [.ref 0] (wld (tk, tp, bt, (T, C, rc, PF, PS, g, pp, bn, sc), b, crf, nt) u tl) (some (.int (if smK s n = 0 then -9 else if sc 0 - smK s n = 0 then -9 else (lbC C g (sc 3) s n (sc 0) 6).1))) (wld (tk, tp, bt, (T, C, rc, PF, PS, g, pp, bn, sc), b, crf, nt) u tl) := by
  refine Ret.of (n := 9) (by decide) (rfl) rfl (fun X => ?_)
  refine z_aload_n d_Lir_leads_0 rfl 1 rfl ?_
  refine z_get d_Lir_leads_1 4 rfl fl_Lir_19_10 wc_0 rfl ?_
  refine z_invv d_Lir_leads_4 7 rfl hm_Roo_howManyAsked lk_Lir_229 im_Roo_howManyAsked sl_Roo_Roo_howManyAsked rfl wc_3 (r_Roo_howManyAsked hn hn30 hTT) rfl rfl (by decide) rfl rfl (Nat.le_of_ble_eq_true rfl) ?_
  refine z_istore_n d_Lir_leads_7 8 rfl (by decide) rfl ?_
  refine z_aload_n d_Lir_leads_8 rfl 9 rfl ?_
  refine z_get d_Lir_leads_9 12 rfl fl_Lir_19_10 wc_0 rfl ?_
  refine z_get d_Lir_leads_12 15 rfl fl_Lir_53_6 wc_3 rfl ?_
  refine z_iload_n d_Lir_leads_15 rfl 16 rfl ?_
  refine z_isub d_Lir_leads_16 17 rfl ?_
  refine z_istore_n d_Lir_leads_17 18 rfl (by decide) rfl ?_
  refine z_iload_n d_Lir_leads_18 rfl 19 rfl ?_
  refine z_if_eq d_Lir_leads_19 26 22 (by decide) rfl (fun h1 => ?_) (fun h1 => ?_)
  · have e0 : smK s n = 0 := h1
    refine z_bipush d_Lir_leads_26 (-9) (by decide) 28 rfl ?_
    exact z_ireturn d_Lir_leads_28 (by first | rw [if_pos e0] | rw [if_neg e0, if_pos e3]) (rfl)
  · have e0 : ¬ smK s n = 0 := h1
    refine z_iload_n d_Lir_leads_22 rfl 23 rfl ?_
    refine z_if_ne d_Lir_leads_23 29 26 (by decide) rfl (fun h2 => ?_) (fun h2 => ?_)
    · have e3 : ¬ sc 0 - smK s n = 0 := h2
      refine z_bipush d_Lir_leads_29 (-9) (by decide) 31 rfl ?_
      refine z_istore_n d_Lir_leads_31 32 rfl (by decide) rfl ?_
      refine z_iconst d_Lir_leads_32 0 (by decide) 33 rfl ?_
      refine z_istore d_Lir_leads_33 35 rfl (by decide) rfl ?_
      refine z_iconst d_Lir_leads_35 0 (by decide) 36 rfl ?_
      refine z_istore d_Lir_leads_36 38 rfl (by decide) rfl ?_
      refine z_Lw ([some (.ref 0), some (.int (smK s n)), some (.int (sc 0 - smK s n)), some (.int ((lbC C g (sc 3) s n (sc 0) 0).1)), some (.int ((lbC C g (sc 3) s n (sc 0) 0).2)), some (.int (nI 0)), none, none, none, none]) (by simp [zLw, List.set, zargs, nI_0, lbC, smK]) ?_
      refine zloop (fun i => Z X m_Lir_leads 6 0 0 (some (.int (if smK s n = 0 then -9 else if sc 0 - smK s n = 0 then -9 else (lbC C g (sc 3) s n (sc 0) 6).1))) (wld (tk, tp, bt, (T, C, rc, PF, PS, g, pp, bn, sc), b, crf, nt) u tl) 38 [some (.ref 0), some (.int (smK s n)), some (.int (sc 0 - smK s n)), some (.int ((lbC C g (sc 3) s n (sc 0) i).1)), some (.int ((lbC C g (sc 3) s n (sc 0) i).2)), some (.int (nI i)), none, none, none, none] [] (wld (tk, tp, bt, (T, C, rc, PF, PS, g, pp, bn, sc), b, crf, nt) u tl)) (6) ?_ ?_ 0 (Nat.zero_le _)
      · refine z_iload d_Lir_leads_38 rfl 40 rfl ?_
        refine z_bipush d_Lir_leads_40 6 (by decide) 42 rfl ?_
        refine z_icmp_ge d_Lir_leads_42 127 45 (by decide) rfl (fun h3 => ?_) (fun hzz => absurd (by decide) hzz)
        refine z_iload_n d_Lir_leads_127 rfl 128 rfl ?_
        exact z_ireturn d_Lir_leads_128 (by rw [if_neg e0, if_neg e3]) (rfl)
      · intro i hi ih
        refine z_iload d_Lir_leads_38 rfl 40 rfl ?_
        refine z_bipush d_Lir_leads_40 6 (by decide) 42 rfl ?_
        refine z_icmp_ge d_Lir_leads_42 127 45 (by decide) rfl (fun hzz => absurd hzz (show ¬ nI 6 ≤ nI i from nI_ge hi (by decide))) (fun h4 => ?_)
        refine z_aload_n d_Lir_leads_45 rfl 46 rfl ?_
        refine z_get d_Lir_leads_46 49 rfl fl_Lir_19_10 wc_0 rfl ?_
        refine z_iload d_Lir_leads_49 rfl 51 rfl ?_
        refine z_invv d_Lir_leads_51 54 rfl hm_Roo_lawAt lk_Lir_104 im_Roo_lawAt sl_Roo_Roo_lawAt rfl wc_3 (r_Roo_lawAt_s i hi) rfl rfl (by decide) rfl rfl (Nat.le_of_ble_eq_true rfl) ?_
        refine z_astore d_Lir_leads_54 56 rfl (by decide) rfl ?_
        refine z_aload d_Lir_leads_56 rfl 58 rfl ?_
        refine z_ifnull d_Lir_leads_58 61 rfl ?_
        refine z_aload_n d_Lir_leads_61 rfl 62 rfl ?_
        refine z_get d_Lir_leads_62 65 rfl fl_Lir_19_10 wc_0 rfl ?_
        refine z_aload d_Lir_leads_65 rfl 67 rfl ?_
        refine z_invv d_Lir_leads_67 70 rfl hm_Roo_howManyFit lk_Lir_226 im_Roo_howManyFit sl_Roo_Roo_howManyFit rfl wc_3 (r_Roo_howManyFit hn hn30 hTT _ hi) rfl rfl (by decide) rfl rfl (Nat.le_of_ble_eq_true rfl) ?_
        refine z_istore d_Lir_leads_70 72 rfl (by decide) rfl ?_
        refine z_aload_n d_Lir_leads_72 rfl 73 rfl ?_
        refine z_get d_Lir_leads_73 76 rfl fl_Lir_19_10 wc_0 rfl ?_
        refine z_aload d_Lir_leads_76 rfl 78 rfl ?_
        refine z_invv d_Lir_leads_78 81 rfl hm_Roo_howManyAskedFit lk_Lir_232 im_Roo_howManyAskedFit sl_Roo_Roo_howManyAskedFit rfl wc_3 (r_Roo_howManyAskedFit hn hn30 hTT _ hi) rfl rfl (by decide) rfl rfl (Nat.le_of_ble_eq_true rfl) ?_
        refine z_istore d_Lir_leads_81 83 rfl (by decide) rfl ?_
        refine z_iload d_Lir_leads_83 rfl 85 rfl ?_
        refine z_iload_n d_Lir_leads_85 rfl 86 rfl ?_
        refine z_invs d_Lir_leads_86 89 rfl hm_Lir_hundredths lk_Lir_191 st_Lir_hundredths (r_Lir_hundredths _ _) rfl rfl (by decide) rfl rfl (Nat.le_of_ble_eq_true rfl) ?_
        refine z_iload d_Lir_leads_89 rfl 91 rfl ?_
        refine z_iload d_Lir_leads_91 rfl 93 rfl ?_
        refine z_isub d_Lir_leads_93 94 rfl ?_
        refine z_iload_n d_Lir_leads_94 rfl 95 rfl ?_
        refine z_invs d_Lir_leads_95 98 rfl hm_Lir_hundredths lk_Lir_191 st_Lir_hundredths (r_Lir_hundredths _ _) rfl rfl (by decide) rfl rfl (Nat.le_of_ble_eq_true rfl) ?_
        refine z_isub d_Lir_leads_98 99 rfl ?_
        refine z_istore d_Lir_leads_99 101 rfl (by decide) rfl ?_
        refine z_iload_n d_Lir_leads_101 rfl 102 rfl ?_
        refine z_bipush d_Lir_leads_102 (-9) (by decide) 104 rfl ?_
        refine z_icmp_eq d_Lir_leads_104 114 107 (by decide) rfl (fun h5 => ?_) (fun h5 => ?_)
        · have e2 : lbC C g (sc 3) s n (sc 0) (i + 1) = (nI i, ldC C g (sc 3) s n (sc 0) i) := by simp only [lbC]; rw [if_pos h5]
          refine z_iload d_Lir_leads_114 rfl 116 rfl ?_
          refine z_istore_n d_Lir_leads_116 117 rfl (by decide) rfl ?_
          refine z_iload d_Lir_leads_117 rfl 119 rfl ?_
          refine z_istore d_Lir_leads_119 121 rfl (by decide) rfl ?_
          refine z_iinc d_Lir_leads_121 1 (by decide) 124 rfl rfl (by decide) rfl ?_
          refine z_goto d_Lir_leads_124 38 (by decide) ?_
          exact z_Lg _ ih (by rw [e2]; simp [zLw, List.set, nI_succ]; try rfl)
        · have e1 : ¬ (lbC C g (sc 3) s n (sc 0) i).1 = -9 := h5
          refine z_iload d_Lir_leads_107 rfl 109 rfl ?_
          refine z_iload d_Lir_leads_109 rfl 111 rfl ?_
          refine z_icmp_le d_Lir_leads_111 121 114 (by decide) rfl (fun h6 => ?_) (fun h6 => ?_)
          · have e2 : lbC C g (sc 3) s n (sc 0) (i + 1) = lbC C g (sc 3) s n (sc 0) i := by simp only [lbC]; rw [if_neg e1, if_pos (show ldC C g (sc 3) s n (sc 0) i ≤ (lbC C g (sc 3) s n (sc 0) i).2 from h6)]
            refine z_iinc d_Lir_leads_121 1 (by decide) 124 rfl rfl (by decide) rfl ?_
            refine z_goto d_Lir_leads_124 38 (by decide) ?_
            exact z_Lg _ ih (by rw [e2]; simp [zLw, List.set, nI_succ]; try rfl)
          · have e2 : lbC C g (sc 3) s n (sc 0) (i + 1) = (nI i, ldC C g (sc 3) s n (sc 0) i) := by simp only [lbC]; rw [if_neg e1, if_neg (show ¬ ldC C g (sc 3) s n (sc 0) i ≤ (lbC C g (sc 3) s n (sc 0) i).2 from h6)]
            refine z_iload d_Lir_leads_114 rfl 116 rfl ?_
            refine z_istore_n d_Lir_leads_116 117 rfl (by decide) rfl ?_
            refine z_iload d_Lir_leads_117 rfl 119 rfl ?_
            refine z_istore d_Lir_leads_119 121 rfl (by decide) rfl ?_
            refine z_iinc d_Lir_leads_121 1 (by decide) 124 rfl rfl (by decide) rfl ?_
            refine z_goto d_Lir_leads_124 38 (by decide) ?_
            exact z_Lg _ ih (by rw [e2]; simp [zLw, List.set, nI_succ]; try rfl)
    · have e3 : sc 0 - smK s n = 0 := h2
      refine z_bipush d_Lir_leads_26 (-9) (by decide) 28 rfl ?_
      exact z_ireturn d_Lir_leads_28 (by first | rw [if_pos e0] | rw [if_neg e0, if_pos e3]) (rfl)
theorem l_gc_0 {X : zS} {hp : List zC} {a0 b0 : Int32} (x j : Nat) (hj : j < 64) : Z X m_Lir_greatestCommon 0 0 0 (some (.int (nI x))) hp 7 [some (.int a0), some (.int b0), some (.int (nI x)), some (.int (nI 0)), some (.int (nI j)), none] [] hp := by
  refine z_iload d_Lir_greatestCommon_7 rfl 9 rfl ?_
  refine z_bipush d_Lir_greatestCommon_9 64 (by decide) 11 rfl ?_
  refine z_icmp_ge d_Lir_greatestCommon_11 34 14 (by decide) rfl (fun hzz => absurd hzz (show ¬ nI 64 ≤ nI j from nI_ge hj (by decide))) (fun h1 => ?_)
  refine z_iload_n d_Lir_greatestCommon_14 rfl 15 rfl ?_
  refine z_if_eq d_Lir_greatestCommon_15 34 18 (by decide) rfl (fun h2 => ?_) (fun hzz => absurd rfl hzz)
  refine z_iload_n d_Lir_greatestCommon_34 rfl 35 rfl ?_
  exact z_ireturn d_Lir_greatestCommon_35 (rfl) (rfl)
theorem l_gc_s {X : zS} {hp : List zC} {a0 b0 : Int32} (x y j g : Nat) (hj : j < 64) (hx : x < 2 ^ 31) (hy : y < 2 ^ 31) (h0 : 0 < y) (hc : Z X m_Lir_greatestCommon 0 0 0 (some (.int (nI g))) hp 7 [some (.int a0), some (.int b0), some (.int (nI y)), some (.int (nI (x % y))), some (.int (nI (j + 1))), none] [] hp) : Z X m_Lir_greatestCommon 0 0 0 (some (.int (nI g))) hp 7 [some (.int a0), some (.int b0), some (.int (nI x)), some (.int (nI y)), some (.int (nI j)), none] [] hp := by
  refine z_iload d_Lir_greatestCommon_7 rfl 9 rfl ?_
  refine z_bipush d_Lir_greatestCommon_9 64 (by decide) 11 rfl ?_
  refine z_icmp_ge d_Lir_greatestCommon_11 34 14 (by decide) rfl (fun hzz => absurd hzz (show ¬ nI 64 ≤ nI j from nI_ge hj (by decide))) (fun h1 => ?_)
  refine z_iload_n d_Lir_greatestCommon_14 rfl 15 rfl ?_
  refine z_if_eq d_Lir_greatestCommon_15 34 18 (by decide) rfl (fun hzz => absurd hzz (nI_ne0 h0 hy)) (fun h2 => ?_)
  refine z_iload_n d_Lir_greatestCommon_18 rfl 19 rfl ?_
  refine z_iload_n d_Lir_greatestCommon_19 rfl 20 rfl ?_
  refine z_irem d_Lir_greatestCommon_20 (nI_ne0 h0 hy) 21 rfl ?_
  refine z_top (.int (nI (x % y))) (by rw [pk_rem hx h0 hy]) ?_
  refine z_istore d_Lir_greatestCommon_21 23 rfl (by decide) rfl ?_
  refine z_iload_n d_Lir_greatestCommon_23 rfl 24 rfl ?_
  refine z_istore_n d_Lir_greatestCommon_24 25 rfl (by decide) rfl ?_
  refine z_iload d_Lir_greatestCommon_25 rfl 27 rfl ?_
  refine z_istore_n d_Lir_greatestCommon_27 28 rfl (by decide) rfl ?_
  refine z_iinc d_Lir_greatestCommon_28 1 (by decide) 31 rfl rfl (by decide) rfl ?_
  refine z_goto d_Lir_greatestCommon_31 7 (by decide) ?_
  exact z_Lg _ hc (by simp [zLw, List.set, nI_succ])
theorem l_gc {X : zS} {hp : List zC} {a0 b0 : Int32} : ∀ (k x y j : Nat), j + 2 * k < 64 → x < 2 ^ 31 → y < 2 ^ 31 → y < 2 ^ k → Z X m_Lir_greatestCommon 0 0 0 (some (.int (nI (Nat.gcd x y)))) hp 7 [some (.int a0), some (.int b0), some (.int (nI x)), some (.int (nI y)), some (.int (nI j)), none] [] hp
  | 0, x, y, j, hj, hx, hy, hk => by
    have : y = 0 := by simpa using hk
    subst this
    rw [Nat.gcd_zero_right]
    exact l_gc_0 x j (by omega)
  | k + 1, x, y, j, hj, hx, hy, hk => by
    rcases Nat.eq_zero_or_pos y with rfl | h0
    · rw [Nat.gcd_zero_right]
      exact l_gc_0 x j (by omega)
    · have hr : x % y < y := Nat.mod_lt x h0
      rw [show Nat.gcd x y = Nat.gcd y (x % y) by rw [Nat.gcd_comm x y, Nat.gcd_rec, Nat.gcd_comm]]
      rcases Nat.eq_zero_or_pos (x % y) with h1 | h1
      · rw [h1, Nat.gcd_zero_right]
        exact l_gc_s x y j y (by omega) hx hy h0 (by rw [h1]; exact l_gc_0 y (j + 1) (by omega))
      · have h2 : y % (x % y) < 2 ^ k := by
          have a := Nat.mod_lt y h1
          have b := Nat.div_add_mod y (x % y)
          have c : 1 ≤ y / (x % y) := (Nat.one_le_div_iff h1).mpr (Nat.le_of_lt hr)
          have e : x % y ≤ (x % y) * (y / (x % y)) := Nat.le_mul_of_pos_right _ c
          rw [Nat.pow_succ] at hk
          omega
        refine l_gc_s x y j _ (by omega) hx hy h0 ?_
        refine l_gc_s y (x % y) (j + 1) _ (by omega) hy (by omega) h1 ?_
        rw [show Nat.gcd y (x % y) = Nat.gcd (x % y) (y % (x % y)) by rw [Nat.gcd_comm y, Nat.gcd_rec, Nat.gcd_comm]]
        exact l_gc k (x % y) (y % (x % y)) (j + 1 + 1) (by omega) (by omega) (Nat.lt_of_le_of_lt (Nat.mod_le _ _) hy) h2
set_option maxHeartbeats 400000 in
theorem r_Lir_greatestCommon {hp : List zC} (x y : Nat) (hx : x < 2 ^ 31) (hy : y < 2 ^ 31) : Ret 0 0 0 m_Lir_greatestCommon [.int (nI x), .int (nI y)] (hp) (some (.int (nI (Nat.gcd x y)))) (hp) := by
  refine Ret.of (n := 4) (by decide) (rfl) rfl (fun X => ?_)
  refine z_iload_n d_Lir_greatestCommon_0 rfl 1 rfl ?_
  refine z_istore_n d_Lir_greatestCommon_1 2 rfl (by decide) rfl ?_
  refine z_iload_n d_Lir_greatestCommon_2 rfl 3 rfl ?_
  refine z_istore_n d_Lir_greatestCommon_3 4 rfl (by decide) rfl ?_
  refine z_iconst d_Lir_greatestCommon_4 0 (by decide) 5 rfl ?_
  refine z_istore d_Lir_greatestCommon_5 7 rfl (by decide) rfl ?_
  exact z_Lg _ (l_gc (a0 := nI x) (b0 := nI y) 31 x y 0 (by decide) hx hy hy) (by simp [zLw, List.set, zargs, nI_0])
set_option maxHeartbeats 400000 in
theorem r_Lir_leastTerms {hp : List zC} (x y : Nat) (p : Int32) (hx : x < 2 ^ 31) (hy : y < 2 ^ 31) (h0 : 0 < y) : Ret 1 0 0 m_Lir_leastTerms [.int (nI x), .int (nI y), .int p] (hp) (some (.int (psV x y p))) (hp) := by
  have hg : 0 < Nat.gcd x y := Nat.gcd_pos_of_pos_right x h0
  have hg2 : Nat.gcd x y ≤ y := Nat.gcd_le_right x h0
  refine Ret.of (n := 1) (by decide) (rfl) rfl (fun X => ?_)
  refine z_iload_n d_Lir_leastTerms_0 rfl 1 rfl ?_
  refine z_iload_n d_Lir_leastTerms_1 rfl 2 rfl ?_
  refine z_invs d_Lir_leastTerms_2 5 rfl hm_Lir_greatestCommon lk_Lir_269 st_Lir_greatestCommon (r_Lir_greatestCommon x y hx hy) rfl rfl (by decide) rfl rfl (Nat.le_of_ble_eq_true rfl) ?_
  refine z_istore_n d_Lir_leastTerms_5 6 rfl (by decide) rfl ?_
  refine z_iload_n d_Lir_leastTerms_6 rfl 7 rfl ?_
  refine z_iconst d_Lir_leastTerms_7 1 (by decide) 8 rfl ?_
  refine z_icmp_ge d_Lir_leastTerms_8 13 11 (by decide) rfl (fun h1 => ?_) (fun hzz => absurd (show nI 1 ≤ nI (Nat.gcd x y) from nI_le (by omega) (by omega)) hzz)
  refine z_iload_n d_Lir_leastTerms_13 rfl 14 rfl ?_
  refine z_if_ne d_Lir_leastTerms_14 21 17 (by decide) rfl (fun h2 => ?_) (fun h2 => ?_)
  · refine z_iload_n d_Lir_leastTerms_21 rfl 22 rfl ?_
    refine z_iload_n d_Lir_leastTerms_22 rfl 23 rfl ?_
    refine z_idiv d_Lir_leastTerms_23 (nI_ne0 hg (by omega)) 24 rfl ?_
    exact z_ireturn d_Lir_leastTerms_24 (by simp only [psV]; simp [*, pk_div hx hg (show Nat.gcd x y < 2 ^ 31 by omega), pk_div (show y < 2 ^ 31 by omega) hg (show Nat.gcd x y < 2 ^ 31 by omega)]) (rfl)
  · refine z_iload_n d_Lir_leastTerms_17 rfl 18 rfl ?_
    refine z_goto d_Lir_leastTerms_18 22 (by decide) ?_
    refine z_iload_n d_Lir_leastTerms_22 rfl 23 rfl ?_
    refine z_idiv d_Lir_leastTerms_23 (nI_ne0 hg (by omega)) 24 rfl ?_
    exact z_ireturn d_Lir_leastTerms_24 (by simp only [psV]; simp [*, pk_div hx hg (show Nat.gcd x y < 2 ^ 31 by omega), pk_div (show y < 2 ^ 31 by omega) hg (show Nat.gcd x y < 2 ^ 31 by omega)]) (rfl)
set_option maxHeartbeats 400000 in
theorem r_Lir_share_1 {tk : Int32} {tp bt crf nt : Nat → Int32} {T PF PS : Nat → Option Nat} {C : Nat → Nat → Int32} {rc g pp bn sc : Nat → Int32} {b : zR} {u : zU} {tl : List zC}  (l p : Int32) (h : inR l 6 = false) : Ret 6 0 0 m_Lir_share [.ref 0, .int l, .int p] (wld (tk, tp, bt, (T, C, rc, PF, PS, g, pp, bn, sc), b, crf, nt) u tl) (some (.int (1000000001))) (wld (tk, tp, bt, (T, C, rc, PF, PS, g, pp, bn, sc), b, rfu crf 1, nt) u tl) := by
  refine Ret.of (n := 8) (by decide) (rfl) rfl (fun X => ?_)
  refine z_aload_n d_Lir_share_0 rfl 1 rfl ?_
  refine z_get d_Lir_share_1 4 rfl fl_Lir_19_10 wc_0 rfl ?_
  refine z_iload_n d_Lir_share_4 rfl 5 rfl ?_
  refine z_invv d_Lir_share_5 8 rfl hm_Roo_lawAt lk_Lir_104 im_Roo_lawAt sl_Roo_Roo_lawAt rfl wc_3 (r_Roo_lawAt_n l h) rfl rfl (by decide) rfl rfl (Nat.le_of_ble_eq_true rfl) ?_
  refine z_astore_nN d_Lir_share_8 9 rfl (by decide) rfl ?_
  refine z_aload_nN d_Lir_share_9 rfl 10 rfl ?_
  refine z_ifnonnullN d_Lir_share_10 13 rfl ?_
  refine z_aload_n d_Lir_share_13 rfl 14 rfl ?_
  refine z_iconst d_Lir_share_14 (-1) (by decide) 15 rfl ?_
  refine z_invv d_Lir_share_15 18 rfl hm_Lir_refuseAsTold lk_Lir_139 im_Lir_refuseAsTold sl_Lir_Lir_refuseAsTold rfl wc_0 (r_Lir_refuseAsTold (-1) 1 (by decide) (by decide)) rfl rfl (by decide) rfl rfl (Nat.le_of_ble_eq_true rfl) ?_
  exact z_ireturn d_Lir_share_18 (rfl) (rfl)
set_option maxHeartbeats 400000 in
theorem r_Lir_share_2 {tk : Int32} {tp bt crf nt : Nat → Int32} {T PF PS : Nat → Option Nat} {C : Nat → Nat → Int32} {rc g pp bn sc : Nat → Int32} {b : zR} {u : zU} {tl : List zC}  (l : Nat) (hl : l < 6) (p : Int32) (h : inR p 2 = false) : Ret 6 0 0 m_Lir_share [.ref 0, .int (nI l), .int p] (wld (tk, tp, bt, (T, C, rc, PF, PS, g, pp, bn, sc), b, crf, nt) u tl) (some (.int (1000000002))) (wld (tk, tp, bt, (T, C, rc, PF, PS, g, pp, bn, sc), b, rfu crf 2, nt) u tl) := by
  refine Ret.of (n := 8) (by decide) (rfl) rfl (fun X => ?_)
  refine z_aload_n d_Lir_share_0 rfl 1 rfl ?_
  refine z_get d_Lir_share_1 4 rfl fl_Lir_19_10 wc_0 rfl ?_
  refine z_iload_n d_Lir_share_4 rfl 5 rfl ?_
  refine z_invv d_Lir_share_5 8 rfl hm_Roo_lawAt lk_Lir_104 im_Roo_lawAt sl_Roo_Roo_lawAt rfl wc_3 (r_Roo_lawAt_s l hl) rfl rfl (by decide) rfl rfl (Nat.le_of_ble_eq_true rfl) ?_
  refine z_astore_n d_Lir_share_8 9 rfl (by decide) rfl ?_
  refine z_aload_n d_Lir_share_9 rfl 10 rfl ?_
  refine z_ifnonnull d_Lir_share_10 19 (by decide) ?_
  refine z_iload_n d_Lir_share_19 rfl 20 rfl ?_
  refine z_invs d_Lir_share_20 23 rfl hm_Lir_isPart lk_Lir_142 st_Lir_isPart (r_Lir_isPart _) rfl rfl (by decide) rfl rfl (Nat.le_of_ble_eq_true rfl) ?_
  refine z_if_ne d_Lir_share_23 33 26 (by decide) rfl (fun hzz => absurd (by rw [h]; decide) hzz) (fun h1 => ?_)
  refine z_aload_n d_Lir_share_26 rfl 27 rfl ?_
  refine z_bipush d_Lir_share_27 (-2) (by decide) 29 rfl ?_
  refine z_invv d_Lir_share_29 32 rfl hm_Lir_refuseAsTold lk_Lir_139 im_Lir_refuseAsTold sl_Lir_Lir_refuseAsTold rfl wc_0 (r_Lir_refuseAsTold (-2) 2 (by decide) (by decide)) rfl rfl (by decide) rfl rfl (Nat.le_of_ble_eq_true rfl) ?_
  exact z_ireturn d_Lir_share_32 (rfl) (rfl)
set_option maxHeartbeats 400000 in
theorem r_Lir_share_3 {tk : Int32} {tp bt crf nt : Nat → Int32} {T PF PS : Nat → Option Nat} {C : Nat → Nat → Int32} {rc g pp bn sc : Nat → Int32} {b : zR} {u : zU} {tl : List zC} {s : Nat → Int32} {n : Nat} (hn : sc 0 = nI n) (hn30 : n ≤ 30) (hTT : TT tl T s n) (l : Nat) (hl : l < 6) (p : Int32) (h : inR p 2 = true) (h0 : sm (fun i => wtC (s (6 + 6 * i + 1)) (s (6 + 6 * i + 3)) (s (6 + 6 * i + 4)) (s (6 + 6 * i + 5))) n = 0) : Ret 6 0 0 m_Lir_share [.ref 0, .int (nI l), .int p] (wld (tk, tp, bt, (T, C, rc, PF, PS, g, pp, bn, sc), b, crf, nt) u tl) (some (.int (1000000003))) (wld (tk, tp, bt, (T, C, rc, PF, PS, g, pp, bn, sc), b, rfu crf 3, nt) u tl) := by
  refine Ret.of (n := 8) (by decide) (rfl) rfl (fun X => ?_)
  refine z_aload_n d_Lir_share_0 rfl 1 rfl ?_
  refine z_get d_Lir_share_1 4 rfl fl_Lir_19_10 wc_0 rfl ?_
  refine z_iload_n d_Lir_share_4 rfl 5 rfl ?_
  refine z_invv d_Lir_share_5 8 rfl hm_Roo_lawAt lk_Lir_104 im_Roo_lawAt sl_Roo_Roo_lawAt rfl wc_3 (r_Roo_lawAt_s l hl) rfl rfl (by decide) rfl rfl (Nat.le_of_ble_eq_true rfl) ?_
  refine z_astore_n d_Lir_share_8 9 rfl (by decide) rfl ?_
  refine z_aload_n d_Lir_share_9 rfl 10 rfl ?_
  refine z_ifnonnull d_Lir_share_10 19 (by decide) ?_
  refine z_iload_n d_Lir_share_19 rfl 20 rfl ?_
  refine z_invs d_Lir_share_20 23 rfl hm_Lir_isPart lk_Lir_142 st_Lir_isPart (r_Lir_isPart _) rfl rfl (by decide) rfl rfl (Nat.le_of_ble_eq_true rfl) ?_
  refine z_if_ne d_Lir_share_23 33 26 (by decide) rfl (fun h1 => ?_) (fun hzz => absurd hzz (by rw [h]; decide))
  refine z_iconst d_Lir_share_33 0 (by decide) 34 rfl ?_
  refine z_istore d_Lir_share_34 36 rfl (by decide) rfl ?_
  refine z_iconst d_Lir_share_36 0 (by decide) 37 rfl ?_
  refine z_istore d_Lir_share_37 39 rfl (by decide) rfl ?_
  refine z_aload_n d_Lir_share_39 rfl 40 rfl ?_
  refine z_get d_Lir_share_40 43 rfl fl_Lir_19_10 wc_0 rfl ?_
  refine z_get d_Lir_share_43 46 rfl fl_Lir_145_6 wc_3 rfl ?_
  refine z_astore d_Lir_share_46 48 rfl (by decide) rfl ?_
  refine z_aload d_Lir_share_48 rfl 50 rfl ?_
  refine z_alenR d_Lir_share_50 51 rfl wc_4 (by decide) 30 (by decide) ?_
  refine z_istore d_Lir_share_51 53 rfl (by decide) rfl ?_
  refine z_iconst d_Lir_share_53 0 (by decide) 54 rfl ?_
  refine z_istore d_Lir_share_54 56 rfl (by decide) rfl ?_
  refine z_Lw ([some (.ref 0), some (.int (nI l)), some (.int p), some (.ref (6 + 2 * l)), some (.int (sm (fun i => if bk C g (sc 3) s i l = 0 then wtC (s (6 + 6 * i + 1)) (s (6 + 6 * i + 3)) (s (6 + 6 * i + 4)) (s (6 + 6 * i + 5)) else 0) (min 0 n))), some (.int (sm (fun i => wtC (s (6 + 6 * i + 1)) (s (6 + 6 * i + 3)) (s (6 + 6 * i + 4)) (s (6 + 6 * i + 5))) (min 0 n))), some (.ref 4), some (.int 30), some (.int (nI 0)), none, none]) (by simp only [smm_0]; simp [zLw, List.set, zargs, nI_0]) ?_
  refine zloop (fun i => Z X m_Lir_share 6 0 0 (some (.int (1000000003))) (wld (tk, tp, bt, (T, C, rc, PF, PS, g, pp, bn, sc), b, rfu crf 3, nt) u tl) 56 [some (.ref 0), some (.int (nI l)), some (.int p), some (.ref (6 + 2 * l)), some (.int (sm (fun i => if bk C g (sc 3) s i l = 0 then wtC (s (6 + 6 * i + 1)) (s (6 + 6 * i + 3)) (s (6 + 6 * i + 4)) (s (6 + 6 * i + 5)) else 0) (min i n))), some (.int (sm (fun i => wtC (s (6 + 6 * i + 1)) (s (6 + 6 * i + 3)) (s (6 + 6 * i + 4)) (s (6 + 6 * i + 5))) (min i n))), some (.ref 4), some (.int 30), some (.int (nI i)), none, none] [] (wld (tk, tp, bt, (T, C, rc, PF, PS, g, pp, bn, sc), b, crf, nt) u tl)) (30) ?_ ?_ 0 (Nat.zero_le _)
  · simp only [smm_30 hn30]
    refine z_iload d_Lir_share_56 rfl 58 rfl ?_
    refine z_iload d_Lir_share_58 rfl 60 rfl ?_
    refine z_icmp_ge d_Lir_share_60 119 63 (by decide) rfl (fun h2 => ?_) (fun hzz => absurd (by decide) hzz)
    refine z_iload d_Lir_share_119 rfl 121 rfl ?_
    refine z_if_ne d_Lir_share_121 133 124 (by decide) rfl (fun hzz => absurd h0 hzz) (fun h3 => ?_)
    refine z_aload_n d_Lir_share_124 rfl 125 rfl ?_
    refine z_bipush d_Lir_share_125 (-3) (by decide) 127 rfl ?_
    refine z_invv d_Lir_share_127 130 rfl hm_Lir_refuseAsTold lk_Lir_139 im_Lir_refuseAsTold sl_Lir_Lir_refuseAsTold rfl wc_0 (r_Lir_refuseAsTold (-3) 3 (by decide) (by decide)) rfl rfl (by decide) rfl rfl (Nat.le_of_ble_eq_true rfl) ?_
    refine z_goto d_Lir_share_130 141 (by decide) ?_
    exact z_ireturn d_Lir_share_141 (rfl) (rfl)
  · intro i hi ih
    refine z_iload d_Lir_share_56 rfl 58 rfl ?_
    refine z_iload d_Lir_share_58 rfl 60 rfl ?_
    refine z_icmp_ge d_Lir_share_60 119 63 (by decide) rfl (fun hzz => absurd hzz (show ¬ nI 30 ≤ nI i from nI_ge hi (by decide))) (fun h4 => ?_)
    refine z_aload d_Lir_share_63 rfl 65 rfl ?_
    refine z_iload d_Lir_share_65 rfl 67 rfl ?_
    rcases Nat.lt_or_ge i n with hin | hin
    · obtain ⟨j, hTi, hj⟩ := hTT.1 i hin
      have hP : (wld (tk, tp, bt, (T, C, rc, PF, PS, g, pp, bn, sc), b, crf, nt) u tl)[51 + j]? = some (tcell (fun k => s (6 + 6 * i + k))) := (wl_tl j).trans hj
      refine z_aaload d_Lir_share_67 (i) 68 rfl wc_4 (Or.inr rfl) rfl (by omega) (by decide) (by rw [hTi]) ?_
      refine z_astore d_Lir_share_68 70 rfl (by decide) rfl ?_
      refine z_aload d_Lir_share_70 rfl 72 rfl ?_
      refine z_ifnull d_Lir_share_72 75 rfl ?_
      refine z_aload d_Lir_share_75 rfl 77 rfl ?_
      refine z_ownW d_Lir_share_77 80 rfl lk_Lir_101 hP (by decide) (Nat.le_of_ble_eq_true rfl) ?_
      refine z_istore d_Lir_share_80 82 rfl (by decide) rfl ?_
      refine z_iload d_Lir_share_82 rfl 84 rfl ?_
      refine z_iload d_Lir_share_84 rfl 86 rfl ?_
      refine z_iadd d_Lir_share_86 87 rfl ?_
      refine z_istore d_Lir_share_87 89 rfl (by decide) rfl ?_
      refine z_iload d_Lir_share_89 rfl 91 rfl ?_
      refine z_aload_n d_Lir_share_91 rfl 92 rfl ?_
      refine z_get d_Lir_share_92 95 rfl fl_Lir_19_10 wc_0 rfl ?_
      refine z_aload d_Lir_share_95 rfl 97 rfl ?_
      refine z_aload_n d_Lir_share_97 rfl 98 rfl ?_
      refine z_invv d_Lir_share_98 101 rfl hm_Roo_brokenBy lk_Lir_135 im_Roo_brokenBy sl_Roo_Roo_brokenBy rfl wc_3 (r_Roo_brokenBy _ _ hP _ hl) rfl rfl (by decide) rfl rfl (Nat.le_of_ble_eq_true rfl) ?_
      refine z_if_ne d_Lir_share_101 109 104 (by decide) rfl (fun h5 => ?_) (fun h5 => ?_)
      · have e0 : ¬ bk C g (sc 3) s i l = 0 := h5
        refine z_iconst d_Lir_share_109 0 (by decide) 110 rfl ?_
        refine z_iadd d_Lir_share_110 111 rfl ?_
        refine z_istore d_Lir_share_111 113 rfl (by decide) rfl ?_
        refine z_iinc d_Lir_share_113 1 (by decide) 116 rfl rfl (by decide) rfl ?_
        refine z_goto d_Lir_share_116 56 (by decide) ?_
        exact z_Lg _ ih (by simp only [smm_lt hin]; simp [zLw, List.set, nI_succ, e0])
      · have e0 : bk C g (sc 3) s i l = 0 := h5
        refine z_iload d_Lir_share_104 rfl 106 rfl ?_
        refine z_goto d_Lir_share_106 110 (by decide) ?_
        refine z_iadd d_Lir_share_110 111 rfl ?_
        refine z_istore d_Lir_share_111 113 rfl (by decide) rfl ?_
        refine z_iinc d_Lir_share_113 1 (by decide) 116 rfl rfl (by decide) rfl ?_
        refine z_goto d_Lir_share_116 56 (by decide) ?_
        exact z_Lg _ ih (by simp only [smm_lt hin]; simp [zLw, List.set, nI_succ, e0])
    · refine z_aaload d_Lir_share_67 (i) 68 rfl wc_4 (Or.inr rfl) rfl (by omega) (by decide) (by rw [hTT.2 i hin (by omega)]) ?_
      refine z_astoreN d_Lir_share_68 70 rfl (by decide) rfl ?_
      refine z_aloadN d_Lir_share_70 rfl 72 rfl ?_
      refine z_ifnullN d_Lir_share_72 113 (by decide) ?_
      refine z_iinc d_Lir_share_113 1 (by decide) 116 rfl rfl (by decide) rfl ?_
      refine z_goto d_Lir_share_116 56 (by decide) ?_
      exact z_Lg _ ih (by simp only [smm_ge hin]; simp [zLw, List.set, nI_succ])
set_option maxHeartbeats 400000 in
theorem r_Lir_share_0 {tk : Int32} {tp bt crf nt : Nat → Int32} {T PF PS : Nat → Option Nat} {C : Nat → Nat → Int32} {rc g pp bn sc : Nat → Int32} {b : zR} {u : zU} {tl : List zC} {s : Nat → Int32} {n : Nat} (hn : sc 0 = nI n) (hn30 : n ≤ 30) (hTT : TT tl T s n) (l : Nat) (hl : l < 6) (p : Int32) (h : inR p 2 = true) (x y : Nat) (hx : sm (fun i => if bk C g (sc 3) s i l = 0 then wtC (s (6 + 6 * i + 1)) (s (6 + 6 * i + 3)) (s (6 + 6 * i + 4)) (s (6 + 6 * i + 5)) else 0) n = nI x) (hy : sm (fun i => wtC (s (6 + 6 * i + 1)) (s (6 + 6 * i + 3)) (s (6 + 6 * i + 4)) (s (6 + 6 * i + 5))) n = nI y) (hx31 : x < 2 ^ 31) (hy31 : y < 2 ^ 31) (h0 : 0 < y) : Ret 6 0 0 m_Lir_share [.ref 0, .int (nI l), .int p] (wld (tk, tp, bt, (T, C, rc, PF, PS, g, pp, bn, sc), b, crf, nt) u tl) (some (.int (psV x y p))) (wld (tk, tp, bt, (T, C, rc, PF, PS, g, pp, bn, sc), b, crf, nt) u tl) := by
  refine Ret.of (n := 8) (by decide) (rfl) rfl (fun X => ?_)
  refine z_aload_n d_Lir_share_0 rfl 1 rfl ?_
  refine z_get d_Lir_share_1 4 rfl fl_Lir_19_10 wc_0 rfl ?_
  refine z_iload_n d_Lir_share_4 rfl 5 rfl ?_
  refine z_invv d_Lir_share_5 8 rfl hm_Roo_lawAt lk_Lir_104 im_Roo_lawAt sl_Roo_Roo_lawAt rfl wc_3 (r_Roo_lawAt_s l hl) rfl rfl (by decide) rfl rfl (Nat.le_of_ble_eq_true rfl) ?_
  refine z_astore_n d_Lir_share_8 9 rfl (by decide) rfl ?_
  refine z_aload_n d_Lir_share_9 rfl 10 rfl ?_
  refine z_ifnonnull d_Lir_share_10 19 (by decide) ?_
  refine z_iload_n d_Lir_share_19 rfl 20 rfl ?_
  refine z_invs d_Lir_share_20 23 rfl hm_Lir_isPart lk_Lir_142 st_Lir_isPart (r_Lir_isPart _) rfl rfl (by decide) rfl rfl (Nat.le_of_ble_eq_true rfl) ?_
  refine z_if_ne d_Lir_share_23 33 26 (by decide) rfl (fun h1 => ?_) (fun hzz => absurd hzz (by rw [h]; decide))
  refine z_iconst d_Lir_share_33 0 (by decide) 34 rfl ?_
  refine z_istore d_Lir_share_34 36 rfl (by decide) rfl ?_
  refine z_iconst d_Lir_share_36 0 (by decide) 37 rfl ?_
  refine z_istore d_Lir_share_37 39 rfl (by decide) rfl ?_
  refine z_aload_n d_Lir_share_39 rfl 40 rfl ?_
  refine z_get d_Lir_share_40 43 rfl fl_Lir_19_10 wc_0 rfl ?_
  refine z_get d_Lir_share_43 46 rfl fl_Lir_145_6 wc_3 rfl ?_
  refine z_astore d_Lir_share_46 48 rfl (by decide) rfl ?_
  refine z_aload d_Lir_share_48 rfl 50 rfl ?_
  refine z_alenR d_Lir_share_50 51 rfl wc_4 (by decide) 30 (by decide) ?_
  refine z_istore d_Lir_share_51 53 rfl (by decide) rfl ?_
  refine z_iconst d_Lir_share_53 0 (by decide) 54 rfl ?_
  refine z_istore d_Lir_share_54 56 rfl (by decide) rfl ?_
  refine z_Lw ([some (.ref 0), some (.int (nI l)), some (.int p), some (.ref (6 + 2 * l)), some (.int (sm (fun i => if bk C g (sc 3) s i l = 0 then wtC (s (6 + 6 * i + 1)) (s (6 + 6 * i + 3)) (s (6 + 6 * i + 4)) (s (6 + 6 * i + 5)) else 0) (min 0 n))), some (.int (sm (fun i => wtC (s (6 + 6 * i + 1)) (s (6 + 6 * i + 3)) (s (6 + 6 * i + 4)) (s (6 + 6 * i + 5))) (min 0 n))), some (.ref 4), some (.int 30), some (.int (nI 0)), none, none]) (by simp only [smm_0]; simp [zLw, List.set, zargs, nI_0]) ?_
  refine zloop (fun i => Z X m_Lir_share 6 0 0 (some (.int (psV x y p))) (wld (tk, tp, bt, (T, C, rc, PF, PS, g, pp, bn, sc), b, crf, nt) u tl) 56 [some (.ref 0), some (.int (nI l)), some (.int p), some (.ref (6 + 2 * l)), some (.int (sm (fun i => if bk C g (sc 3) s i l = 0 then wtC (s (6 + 6 * i + 1)) (s (6 + 6 * i + 3)) (s (6 + 6 * i + 4)) (s (6 + 6 * i + 5)) else 0) (min i n))), some (.int (sm (fun i => wtC (s (6 + 6 * i + 1)) (s (6 + 6 * i + 3)) (s (6 + 6 * i + 4)) (s (6 + 6 * i + 5))) (min i n))), some (.ref 4), some (.int 30), some (.int (nI i)), none, none] [] (wld (tk, tp, bt, (T, C, rc, PF, PS, g, pp, bn, sc), b, crf, nt) u tl)) (30) ?_ ?_ 0 (Nat.zero_le _)
  · simp only [smm_30 hn30]
    refine z_iload d_Lir_share_56 rfl 58 rfl ?_
    refine z_iload d_Lir_share_58 rfl 60 rfl ?_
    refine z_icmp_ge d_Lir_share_60 119 63 (by decide) rfl (fun h2 => ?_) (fun hzz => absurd (by decide) hzz)
    refine z_iload d_Lir_share_119 rfl 121 rfl ?_
    refine z_if_ne d_Lir_share_121 133 124 (by decide) rfl (fun h3 => ?_) (fun hzz => absurd hzz (by rw [hy]; exact nI_ne0 h0 hy31))
    refine z_iload d_Lir_share_133 rfl 135 rfl ?_
    refine z_iload d_Lir_share_135 rfl 137 rfl ?_
    refine z_iload_n d_Lir_share_137 rfl 138 rfl ?_
    rw [hx, hy]
    refine z_invs d_Lir_share_138 141 rfl hm_Lir_leastTerms lk_Lir_149 st_Lir_leastTerms (r_Lir_leastTerms x y p hx31 hy31 h0) rfl rfl (by decide) rfl rfl (Nat.le_of_ble_eq_true rfl) ?_
    exact z_ireturn d_Lir_share_141 (rfl) (rfl)
  · intro i hi ih
    refine z_iload d_Lir_share_56 rfl 58 rfl ?_
    refine z_iload d_Lir_share_58 rfl 60 rfl ?_
    refine z_icmp_ge d_Lir_share_60 119 63 (by decide) rfl (fun hzz => absurd hzz (show ¬ nI 30 ≤ nI i from nI_ge hi (by decide))) (fun h4 => ?_)
    refine z_aload d_Lir_share_63 rfl 65 rfl ?_
    refine z_iload d_Lir_share_65 rfl 67 rfl ?_
    rcases Nat.lt_or_ge i n with hin | hin
    · obtain ⟨j, hTi, hj⟩ := hTT.1 i hin
      have hP : (wld (tk, tp, bt, (T, C, rc, PF, PS, g, pp, bn, sc), b, crf, nt) u tl)[51 + j]? = some (tcell (fun k => s (6 + 6 * i + k))) := (wl_tl j).trans hj
      refine z_aaload d_Lir_share_67 (i) 68 rfl wc_4 (Or.inr rfl) rfl (by omega) (by decide) (by rw [hTi]) ?_
      refine z_astore d_Lir_share_68 70 rfl (by decide) rfl ?_
      refine z_aload d_Lir_share_70 rfl 72 rfl ?_
      refine z_ifnull d_Lir_share_72 75 rfl ?_
      refine z_aload d_Lir_share_75 rfl 77 rfl ?_
      refine z_ownW d_Lir_share_77 80 rfl lk_Lir_101 hP (by decide) (Nat.le_of_ble_eq_true rfl) ?_
      refine z_istore d_Lir_share_80 82 rfl (by decide) rfl ?_
      refine z_iload d_Lir_share_82 rfl 84 rfl ?_
      refine z_iload d_Lir_share_84 rfl 86 rfl ?_
      refine z_iadd d_Lir_share_86 87 rfl ?_
      refine z_istore d_Lir_share_87 89 rfl (by decide) rfl ?_
      refine z_iload d_Lir_share_89 rfl 91 rfl ?_
      refine z_aload_n d_Lir_share_91 rfl 92 rfl ?_
      refine z_get d_Lir_share_92 95 rfl fl_Lir_19_10 wc_0 rfl ?_
      refine z_aload d_Lir_share_95 rfl 97 rfl ?_
      refine z_aload_n d_Lir_share_97 rfl 98 rfl ?_
      refine z_invv d_Lir_share_98 101 rfl hm_Roo_brokenBy lk_Lir_135 im_Roo_brokenBy sl_Roo_Roo_brokenBy rfl wc_3 (r_Roo_brokenBy _ _ hP _ hl) rfl rfl (by decide) rfl rfl (Nat.le_of_ble_eq_true rfl) ?_
      refine z_if_ne d_Lir_share_101 109 104 (by decide) rfl (fun h5 => ?_) (fun h5 => ?_)
      · have e0 : ¬ bk C g (sc 3) s i l = 0 := h5
        refine z_iconst d_Lir_share_109 0 (by decide) 110 rfl ?_
        refine z_iadd d_Lir_share_110 111 rfl ?_
        refine z_istore d_Lir_share_111 113 rfl (by decide) rfl ?_
        refine z_iinc d_Lir_share_113 1 (by decide) 116 rfl rfl (by decide) rfl ?_
        refine z_goto d_Lir_share_116 56 (by decide) ?_
        exact z_Lg _ ih (by simp only [smm_lt hin]; simp [zLw, List.set, nI_succ, e0])
      · have e0 : bk C g (sc 3) s i l = 0 := h5
        refine z_iload d_Lir_share_104 rfl 106 rfl ?_
        refine z_goto d_Lir_share_106 110 (by decide) ?_
        refine z_iadd d_Lir_share_110 111 rfl ?_
        refine z_istore d_Lir_share_111 113 rfl (by decide) rfl ?_
        refine z_iinc d_Lir_share_113 1 (by decide) 116 rfl rfl (by decide) rfl ?_
        refine z_goto d_Lir_share_116 56 (by decide) ?_
        exact z_Lg _ ih (by simp only [smm_lt hin]; simp [zLw, List.set, nI_succ, e0])
    · refine z_aaload d_Lir_share_67 (i) 68 rfl wc_4 (Or.inr rfl) rfl (by omega) (by decide) (by rw [hTT.2 i hin (by omega)]) ?_
      refine z_astoreN d_Lir_share_68 70 rfl (by decide) rfl ?_
      refine z_aloadN d_Lir_share_70 rfl 72 rfl ?_
      refine z_ifnullN d_Lir_share_72 113 (by decide) ?_
      refine z_iinc d_Lir_share_113 1 (by decide) 116 rfl rfl (by decide) rfl ?_
      refine z_goto d_Lir_share_116 56 (by decide) ?_
      exact z_Lg _ ih (by simp only [smm_ge hin]; simp [zLw, List.set, nI_succ])
def PPr (tl : List zC) (PF : Nat → Option Nat) (v : Nat → Nat → Int32) (q : Nat) : Prop := ∀ k, k < q → ∃ i, PF k = some (51 + i) ∧ tl[i]? = some (tcell (v k))
set_option maxHeartbeats 400000 in
theorem r_Roo_firstOfPair {tk : Int32} {tp bt crf nt : Nat → Int32} {T PF PS : Nat → Option Nat} {C : Nat → Nat → Int32} {rc g pp bn sc : Nat → Int32} {b : zR} {u : zU} {tl : List zC}  {q : Nat} (hq : sc 1 = nI q) (hq10 : q ≤ 10) (k P : Nat) (hk : k < q) (hT : PF k = some P) : Ret 1 0 0 m_Roo_firstOfPair [.ref 3, .int (nI k)] (wld (tk, tp, bt, (T, C, rc, PF, PS, g, pp, bn, sc), b, crf, nt) u tl) (some (.ref P)) (wld (tk, tp, bt, (T, C, rc, PF, PS, g, pp, bn, sc), b, crf, nt) u tl) := by
  refine Ret.of (n := 0) (by decide) (trivial) rfl (fun X => ?_)
  refine z_iload_n d_Roo_firstOfPair_0 rfl 1 rfl ?_
  refine z_aload_n d_Roo_firstOfPair_1 rfl 2 rfl ?_
  refine z_get d_Roo_firstOfPair_2 5 rfl fl_Roo_80_6 wc_3 rfl ?_
  refine z_icmp_ge d_Roo_firstOfPair_5 19 8 (by decide) rfl (fun hzz => absurd hzz (by rw [hq]; exact nI_ge hk (by omega))) (fun h1 => ?_)
  refine z_aload_n d_Roo_firstOfPair_8 rfl 9 rfl ?_
  refine z_get d_Roo_firstOfPair_9 12 rfl fl_Roo_24_6 wc_3 rfl ?_
  refine z_iload_n d_Roo_firstOfPair_12 rfl 13 rfl ?_
  refine z_invs d_Roo_firstOfPair_13 16 rfl hm_Roo_inRow lk_Roo_90 st_Roo_inRow (r_Roo_inRow_s 18 10 PF wc_18 (by decide) k P (by omega) hT) rfl rfl (by decide) rfl rfl (Nat.le_of_ble_eq_true rfl) ?_
  refine z_goto d_Roo_firstOfPair_16 20 (by decide) ?_
  exact z_areturn d_Roo_firstOfPair_20 (rfl) (rfl)
set_option maxHeartbeats 400000 in
theorem r_Roo_secondOfPair {tk : Int32} {tp bt crf nt : Nat → Int32} {T PF PS : Nat → Option Nat} {C : Nat → Nat → Int32} {rc g pp bn sc : Nat → Int32} {b : zR} {u : zU} {tl : List zC}  {q : Nat} (hq : sc 1 = nI q) (hq10 : q ≤ 10) (k P : Nat) (hk : k < q) (hT : PS k = some P) : Ret 1 0 0 m_Roo_secondOfPair [.ref 3, .int (nI k)] (wld (tk, tp, bt, (T, C, rc, PF, PS, g, pp, bn, sc), b, crf, nt) u tl) (some (.ref P)) (wld (tk, tp, bt, (T, C, rc, PF, PS, g, pp, bn, sc), b, crf, nt) u tl) := by
  refine Ret.of (n := 0) (by decide) (trivial) rfl (fun X => ?_)
  refine z_iload_n d_Roo_secondOfPair_0 rfl 1 rfl ?_
  refine z_aload_n d_Roo_secondOfPair_1 rfl 2 rfl ?_
  refine z_get d_Roo_secondOfPair_2 5 rfl fl_Roo_80_6 wc_3 rfl ?_
  refine z_icmp_ge d_Roo_secondOfPair_5 19 8 (by decide) rfl (fun hzz => absurd hzz (by rw [hq]; exact nI_ge hk (by omega))) (fun h1 => ?_)
  refine z_aload_n d_Roo_secondOfPair_8 rfl 9 rfl ?_
  refine z_get d_Roo_secondOfPair_9 12 rfl fl_Roo_27_6 wc_3 rfl ?_
  refine z_iload_n d_Roo_secondOfPair_12 rfl 13 rfl ?_
  refine z_invs d_Roo_secondOfPair_13 16 rfl hm_Roo_inRow lk_Roo_90 st_Roo_inRow (r_Roo_inRow_s 19 10 PS wc_19 (by decide) k P (by omega) hT) rfl rfl (by decide) rfl rfl (Nat.le_of_ble_eq_true rfl) ?_
  refine z_goto d_Roo_secondOfPair_16 20 (by decide) ?_
  exact z_areturn d_Roo_secondOfPair_20 (rfl) (rfl)
set_option maxHeartbeats 400000 in
theorem r_Lir_grows_2 {tk : Int32} {tp bt crf nt : Nat → Int32} {T PF PS : Nat → Option Nat} {C : Nat → Nat → Int32} {rc g pp bn sc : Nat → Int32} {b : zR} {u : zU} {tl : List zC}  (w p : Int32) (h : inR w 2 = false) : Ret 6 0 0 m_Lir_grows [.ref 0, .int w, .int p] (wld (tk, tp, bt, (T, C, rc, PF, PS, g, pp, bn, sc), b, crf, nt) u tl) (some (.int (1000000002))) (wld (tk, tp, bt, (T, C, rc, PF, PS, g, pp, bn, sc), b, rfu crf 2, nt) u tl) := by
  refine Ret.of (n := 5) (by decide) (rfl) rfl (fun X => ?_)
  refine z_iload_n d_Lir_grows_0 rfl 1 rfl ?_
  refine z_invs d_Lir_grows_1 4 rfl hm_Lir_isSizeOrSeconds lk_Lir_124 st_Lir_isSizeOrSeconds (r_Lir_isSizeOrSeconds _) rfl rfl (by decide) rfl rfl (Nat.le_of_ble_eq_true rfl) ?_
  refine z_if_eq d_Lir_grows_4 14 7 (by decide) rfl (fun h1 => ?_) (fun hzz => absurd (by rw [h]; rfl) hzz)
  refine z_aload_n d_Lir_grows_14 rfl 15 rfl ?_
  refine z_bipush d_Lir_grows_15 (-2) (by decide) 17 rfl ?_
  refine z_invv d_Lir_grows_17 20 rfl hm_Lir_refuseAsTold lk_Lir_139 im_Lir_refuseAsTold sl_Lir_Lir_refuseAsTold rfl wc_0 (r_Lir_refuseAsTold (-2) 2 (by decide) (by decide)) rfl rfl (by decide) rfl rfl (Nat.le_of_ble_eq_true rfl) ?_
  exact z_ireturn d_Lir_grows_20 (rfl) (rfl)
set_option maxHeartbeats 400000 in
theorem r_Lir_grows_2b {tk : Int32} {tp bt crf nt : Nat → Int32} {T PF PS : Nat → Option Nat} {C : Nat → Nat → Int32} {rc g pp bn sc : Nat → Int32} {b : zR} {u : zU} {tl : List zC}  (w p : Int32) (hw : inR w 2 = true) (h : inR p 2 = false) : Ret 6 0 0 m_Lir_grows [.ref 0, .int w, .int p] (wld (tk, tp, bt, (T, C, rc, PF, PS, g, pp, bn, sc), b, crf, nt) u tl) (some (.int (1000000002))) (wld (tk, tp, bt, (T, C, rc, PF, PS, g, pp, bn, sc), b, rfu crf 2, nt) u tl) := by
  refine Ret.of (n := 5) (by decide) (rfl) rfl (fun X => ?_)
  refine z_iload_n d_Lir_grows_0 rfl 1 rfl ?_
  refine z_invs d_Lir_grows_1 4 rfl hm_Lir_isSizeOrSeconds lk_Lir_124 st_Lir_isSizeOrSeconds (r_Lir_isSizeOrSeconds _) rfl rfl (by decide) rfl rfl (Nat.le_of_ble_eq_true rfl) ?_
  refine z_if_eq d_Lir_grows_4 14 7 (by decide) rfl (fun hzz => absurd hzz (by rw [hw]; decide)) (fun h1 => ?_)
  refine z_iload_n d_Lir_grows_7 rfl 8 rfl ?_
  refine z_invs d_Lir_grows_8 11 rfl hm_Lir_isPart lk_Lir_142 st_Lir_isPart (r_Lir_isPart _) rfl rfl (by decide) rfl rfl (Nat.le_of_ble_eq_true rfl) ?_
  refine z_if_ne d_Lir_grows_11 21 14 (by decide) rfl (fun hzz => absurd (by rw [h]; decide) hzz) (fun h2 => ?_)
  refine z_aload_n d_Lir_grows_14 rfl 15 rfl ?_
  refine z_bipush d_Lir_grows_15 (-2) (by decide) 17 rfl ?_
  refine z_invv d_Lir_grows_17 20 rfl hm_Lir_refuseAsTold lk_Lir_139 im_Lir_refuseAsTold sl_Lir_Lir_refuseAsTold rfl wc_0 (r_Lir_refuseAsTold (-2) 2 (by decide) (by decide)) rfl rfl (by decide) rfl rfl (Nat.le_of_ble_eq_true rfl) ?_
  exact z_ireturn d_Lir_grows_20 (rfl) (rfl)
set_option maxHeartbeats 400000 in
theorem r_Lir_grows_30 {tk : Int32} {tp bt crf nt : Nat → Int32} {T PF PS : Nat → Option Nat} {C : Nat → Nat → Int32} {rc g pp bn sc : Nat → Int32} {b : zR} {u : zU} {tl : List zC}  {q : Nat} (hq : sc 1 = nI q) (hq10 : q ≤ 10) {v1 v2 : Nat → Nat → Int32} (h1p : PPr tl PF v1 q) (h2p : PPr tl PS v2 q) (p : Int32) (h : inR p 2 = true) (h0 : sm (fun i => if v1 i 0 = -9 then 0 else if v2 i 0 = -9 then 0 else v1 i 0) q = 0) : Ret 6 0 0 m_Lir_grows [.ref 0, .int 0, .int p] (wld (tk, tp, bt, (T, C, rc, PF, PS, g, pp, bn, sc), b, crf, nt) u tl) (some (.int (1000000003))) (wld (tk, tp, bt, (T, C, rc, PF, PS, g, pp, bn, sc), b, rfu crf 3, nt) u tl) := by
  refine Ret.of (n := 5) (by decide) (rfl) rfl (fun X => ?_)
  refine z_iload_n d_Lir_grows_0 rfl 1 rfl ?_
  refine z_invs d_Lir_grows_1 4 rfl hm_Lir_isSizeOrSeconds lk_Lir_124 st_Lir_isSizeOrSeconds (r_Lir_isSizeOrSeconds _) rfl rfl (by decide) rfl rfl (Nat.le_of_ble_eq_true rfl) ?_
  refine z_if_eq d_Lir_grows_4 14 7 (by decide) rfl (fun hzz => absurd hzz (by decide)) (fun h1 => ?_)
  refine z_iload_n d_Lir_grows_7 rfl 8 rfl ?_
  refine z_invs d_Lir_grows_8 11 rfl hm_Lir_isPart lk_Lir_142 st_Lir_isPart (r_Lir_isPart _) rfl rfl (by decide) rfl rfl (Nat.le_of_ble_eq_true rfl) ?_
  refine z_if_ne d_Lir_grows_11 21 14 (by decide) rfl (fun h2 => ?_) (fun hzz => absurd hzz (by rw [h]; decide))
  refine z_iconst d_Lir_grows_21 0 (by decide) 22 rfl ?_
  refine z_istore_n d_Lir_grows_22 23 rfl (by decide) rfl ?_
  refine z_iconst d_Lir_grows_23 0 (by decide) 24 rfl ?_
  refine z_istore d_Lir_grows_24 26 rfl (by decide) rfl ?_
  refine z_iconst d_Lir_grows_26 0 (by decide) 27 rfl ?_
  refine z_istore d_Lir_grows_27 29 rfl (by decide) rfl ?_
  refine z_Lw ([some (.ref 0), some (.int 0), some (.int p), some (.int (sm (fun i => if v1 i 0 = -9 then 0 else if v2 i 0 = -9 then 0 else v1 i 0) 0)), some (.int (sm (fun i => if v1 i 0 = -9 then 0 else if v2 i 0 = -9 then 0 else v2 i 0) 0)), some (.int (nI 0)), none, none]) (by simp [zLw, List.set, zargs, nI_0, sm]) ?_
  refine zloop (fun i => Z X m_Lir_grows 6 0 0 (some (.int (1000000003))) (wld (tk, tp, bt, (T, C, rc, PF, PS, g, pp, bn, sc), b, rfu crf 3, nt) u tl) 29 [some (.ref 0), some (.int 0), some (.int p), some (.int (sm (fun i => if v1 i 0 = -9 then 0 else if v2 i 0 = -9 then 0 else v1 i 0) i)), some (.int (sm (fun i => if v1 i 0 = -9 then 0 else if v2 i 0 = -9 then 0 else v2 i 0) i)), some (.int (nI i)), none, none] [] (wld (tk, tp, bt, (T, C, rc, PF, PS, g, pp, bn, sc), b, crf, nt) u tl)) (q) ?_ ?_ 0 (Nat.zero_le _)
  · refine z_iload d_Lir_grows_29 rfl 31 rfl ?_
    refine z_aload_n d_Lir_grows_31 rfl 32 rfl ?_
    refine z_get d_Lir_grows_32 35 rfl fl_Lir_19_10 wc_0 rfl ?_
    refine z_get d_Lir_grows_35 38 rfl fl_Lir_194_6 wc_3 rfl ?_
    refine z_icmp_ge d_Lir_grows_38 117 41 (by decide) rfl (fun h3 => ?_) (fun hzz => absurd (by rw [hq]; exact Int32.le_refl _) hzz)
    refine z_iload_n d_Lir_grows_117 rfl 118 rfl ?_
    refine z_if_ne d_Lir_grows_118 130 121 (by decide) rfl (fun hzz => absurd h0 hzz) (fun h4 => ?_)
    refine z_aload_n d_Lir_grows_121 rfl 122 rfl ?_
    refine z_bipush d_Lir_grows_122 (-3) (by decide) 124 rfl ?_
    refine z_invv d_Lir_grows_124 127 rfl hm_Lir_refuseAsTold lk_Lir_139 im_Lir_refuseAsTold sl_Lir_Lir_refuseAsTold rfl wc_0 (r_Lir_refuseAsTold (-3) 3 (by decide) (by decide)) rfl rfl (by decide) rfl rfl (Nat.le_of_ble_eq_true rfl) ?_
    refine z_goto d_Lir_grows_127 137 (by decide) ?_
    exact z_ireturn d_Lir_grows_137 (rfl) (rfl)
  · intro i hi ih
    obtain ⟨j1, hT1, hj1⟩ := h1p i hi
    obtain ⟨j2, hT2, hj2⟩ := h2p i hi
    refine z_iload d_Lir_grows_29 rfl 31 rfl ?_
    refine z_aload_n d_Lir_grows_31 rfl 32 rfl ?_
    refine z_get d_Lir_grows_32 35 rfl fl_Lir_19_10 wc_0 rfl ?_
    refine z_get d_Lir_grows_35 38 rfl fl_Lir_194_6 wc_3 rfl ?_
    refine z_icmp_ge d_Lir_grows_38 117 41 (by decide) rfl (fun hzz => absurd hzz (by rw [hq]; exact nI_ge hi (by omega))) (fun h5 => ?_)
    refine z_aload_n d_Lir_grows_41 rfl 42 rfl ?_
    refine z_get d_Lir_grows_42 45 rfl fl_Lir_19_10 wc_0 rfl ?_
    refine z_iload d_Lir_grows_45 rfl 47 rfl ?_
    refine z_invv d_Lir_grows_47 50 rfl hm_Roo_firstOfPair lk_Lir_201 im_Roo_firstOfPair sl_Roo_Roo_firstOfPair rfl wc_3 (r_Roo_firstOfPair hq hq10 i _ hi hT1) rfl rfl (by decide) rfl rfl (Nat.le_of_ble_eq_true rfl) ?_
    refine z_astore d_Lir_grows_50 52 rfl (by decide) rfl ?_
    refine z_aload_n d_Lir_grows_52 rfl 53 rfl ?_
    refine z_get d_Lir_grows_53 56 rfl fl_Lir_19_10 wc_0 rfl ?_
    refine z_iload d_Lir_grows_56 rfl 58 rfl ?_
    refine z_invv d_Lir_grows_58 61 rfl hm_Roo_secondOfPair lk_Lir_204 im_Roo_secondOfPair sl_Roo_Roo_secondOfPair rfl wc_3 (r_Roo_secondOfPair hq hq10 i _ hi hT2) rfl rfl (by decide) rfl rfl (Nat.le_of_ble_eq_true rfl) ?_
    refine z_astore d_Lir_grows_61 63 rfl (by decide) rfl ?_
    refine z_aload d_Lir_grows_63 rfl 65 rfl ?_
    refine z_ifnull d_Lir_grows_65 68 rfl ?_
    refine z_aload d_Lir_grows_68 rfl 70 rfl ?_
    refine z_ifnull d_Lir_grows_70 73 rfl ?_
    refine z_aload d_Lir_grows_73 rfl 75 rfl ?_
    refine z_iload_n d_Lir_grows_75 rfl 76 rfl ?_
    refine z_invT d_Lir_grows_76 79 rfl hm_Tel_lacks lk_Lir_207 sm_Tel_lacks im_Tel_lacks (selT_lacks (kci_mem _)) ((wl_tl j1).trans hj1) (r_Tel_lacks _ _ ((wl_tl j1).trans hj1) _) rfl rfl (by decide) rfl rfl (Nat.le_of_ble_eq_true rfl) ?_
    refine z_if_ne d_Lir_grows_79 111 82 (by decide) rfl (fun h6 => ?_) (fun h6 => ?_)
    · have e0 : v1 i 0 = -9 := of_decide_eq_true ((zb_ne _).mp h6)
      refine z_iinc d_Lir_grows_111 1 (by decide) 114 rfl rfl (by decide) rfl ?_
      refine z_goto d_Lir_grows_114 29 (by decide) ?_
      exact z_Lg _ ih (by simp only [sm]; first | (simp [zLw, List.set, nI_succ, e0]; done) | (simp [zLw, List.set, nI_succ, e0, e1]; try rfl))
    · have e0 : ¬ v1 i 0 = -9 := of_decide_eq_false ((zb_eq _).mp h6)
      refine z_aload d_Lir_grows_82 rfl 84 rfl ?_
      refine z_iload_n d_Lir_grows_84 rfl 85 rfl ?_
      refine z_invT d_Lir_grows_85 88 rfl hm_Tel_lacks lk_Lir_207 sm_Tel_lacks im_Tel_lacks (selT_lacks (kci_mem _)) ((wl_tl j2).trans hj2) (r_Tel_lacks _ _ ((wl_tl j2).trans hj2) _) rfl rfl (by decide) rfl rfl (Nat.le_of_ble_eq_true rfl) ?_
      refine z_if_ne d_Lir_grows_88 111 91 (by decide) rfl (fun h7 => ?_) (fun h7 => ?_)
      · have e1 : v2 i 0 = -9 := of_decide_eq_true ((zb_ne _).mp h7)
        refine z_iinc d_Lir_grows_111 1 (by decide) 114 rfl rfl (by decide) rfl ?_
        refine z_goto d_Lir_grows_114 29 (by decide) ?_
        exact z_Lg _ ih (by simp only [sm]; first | (simp [zLw, List.set, nI_succ, e0]; done) | (simp [zLw, List.set, nI_succ, e0, e1]; try rfl))
      · have e1 : ¬ v2 i 0 = -9 := of_decide_eq_false ((zb_eq _).mp h7)
        refine z_iload_n d_Lir_grows_91 rfl 92 rfl ?_
        refine z_aload d_Lir_grows_92 rfl 94 rfl ?_
        refine z_iload_n d_Lir_grows_94 rfl 95 rfl ?_
        refine z_invT d_Lir_grows_95 98 rfl hm_Tel_numberTold lk_Lir_210 sm_Tel_numberTold im_Tel_numberTold (selT_numberTold (kci_mem _)) ((wl_tl j1).trans hj1) (r_Tel_numberTold _ _ ((wl_tl j1).trans hj1) _) rfl rfl (by decide) rfl rfl (Nat.le_of_ble_eq_true rfl) ?_
        refine z_iadd d_Lir_grows_98 99 rfl ?_
        refine z_istore_n d_Lir_grows_99 100 rfl (by decide) rfl ?_
        refine z_iload d_Lir_grows_100 rfl 102 rfl ?_
        refine z_aload d_Lir_grows_102 rfl 104 rfl ?_
        refine z_iload_n d_Lir_grows_104 rfl 105 rfl ?_
        refine z_invT d_Lir_grows_105 108 rfl hm_Tel_numberTold lk_Lir_210 sm_Tel_numberTold im_Tel_numberTold (selT_numberTold (kci_mem _)) ((wl_tl j2).trans hj2) (r_Tel_numberTold _ _ ((wl_tl j2).trans hj2) _) rfl rfl (by decide) rfl rfl (Nat.le_of_ble_eq_true rfl) ?_
        refine z_iadd d_Lir_grows_108 109 rfl ?_
        refine z_istore d_Lir_grows_109 111 rfl (by decide) rfl ?_
        refine z_iinc d_Lir_grows_111 1 (by decide) 114 rfl rfl (by decide) rfl ?_
        refine z_goto d_Lir_grows_114 29 (by decide) ?_
        exact z_Lg _ ih (by simp only [sm]; first | (simp [zLw, List.set, nI_succ, e0]; done) | (simp [zLw, List.set, nI_succ, e0, e1]; try rfl))
set_option maxHeartbeats 400000 in
theorem r_Lir_grows_00 {tk : Int32} {tp bt crf nt : Nat → Int32} {T PF PS : Nat → Option Nat} {C : Nat → Nat → Int32} {rc g pp bn sc : Nat → Int32} {b : zR} {u : zU} {tl : List zC}  {q : Nat} (hq : sc 1 = nI q) (hq10 : q ≤ 10) {v1 v2 : Nat → Nat → Int32} (h1p : PPr tl PF v1 q) (h2p : PPr tl PS v2 q) (p : Int32) (h : inR p 2 = true) (x y : Nat) (hx : sm (fun i => if v1 i 0 = -9 then 0 else if v2 i 0 = -9 then 0 else v2 i 0) q = nI x) (hy : sm (fun i => if v1 i 0 = -9 then 0 else if v2 i 0 = -9 then 0 else v1 i 0) q = nI y) (hx31 : x < 2 ^ 31) (hy31 : y < 2 ^ 31) (h0 : 0 < y) : Ret 6 0 0 m_Lir_grows [.ref 0, .int 0, .int p] (wld (tk, tp, bt, (T, C, rc, PF, PS, g, pp, bn, sc), b, crf, nt) u tl) (some (.int (psV x y p))) (wld (tk, tp, bt, (T, C, rc, PF, PS, g, pp, bn, sc), b, crf, nt) u tl) := by
  refine Ret.of (n := 5) (by decide) (rfl) rfl (fun X => ?_)
  refine z_iload_n d_Lir_grows_0 rfl 1 rfl ?_
  refine z_invs d_Lir_grows_1 4 rfl hm_Lir_isSizeOrSeconds lk_Lir_124 st_Lir_isSizeOrSeconds (r_Lir_isSizeOrSeconds _) rfl rfl (by decide) rfl rfl (Nat.le_of_ble_eq_true rfl) ?_
  refine z_if_eq d_Lir_grows_4 14 7 (by decide) rfl (fun hzz => absurd hzz (by decide)) (fun h1 => ?_)
  refine z_iload_n d_Lir_grows_7 rfl 8 rfl ?_
  refine z_invs d_Lir_grows_8 11 rfl hm_Lir_isPart lk_Lir_142 st_Lir_isPart (r_Lir_isPart _) rfl rfl (by decide) rfl rfl (Nat.le_of_ble_eq_true rfl) ?_
  refine z_if_ne d_Lir_grows_11 21 14 (by decide) rfl (fun h2 => ?_) (fun hzz => absurd hzz (by rw [h]; decide))
  refine z_iconst d_Lir_grows_21 0 (by decide) 22 rfl ?_
  refine z_istore_n d_Lir_grows_22 23 rfl (by decide) rfl ?_
  refine z_iconst d_Lir_grows_23 0 (by decide) 24 rfl ?_
  refine z_istore d_Lir_grows_24 26 rfl (by decide) rfl ?_
  refine z_iconst d_Lir_grows_26 0 (by decide) 27 rfl ?_
  refine z_istore d_Lir_grows_27 29 rfl (by decide) rfl ?_
  refine z_Lw ([some (.ref 0), some (.int 0), some (.int p), some (.int (sm (fun i => if v1 i 0 = -9 then 0 else if v2 i 0 = -9 then 0 else v1 i 0) 0)), some (.int (sm (fun i => if v1 i 0 = -9 then 0 else if v2 i 0 = -9 then 0 else v2 i 0) 0)), some (.int (nI 0)), none, none]) (by simp [zLw, List.set, zargs, nI_0, sm]) ?_
  refine zloop (fun i => Z X m_Lir_grows 6 0 0 (some (.int (psV x y p))) (wld (tk, tp, bt, (T, C, rc, PF, PS, g, pp, bn, sc), b, crf, nt) u tl) 29 [some (.ref 0), some (.int 0), some (.int p), some (.int (sm (fun i => if v1 i 0 = -9 then 0 else if v2 i 0 = -9 then 0 else v1 i 0) i)), some (.int (sm (fun i => if v1 i 0 = -9 then 0 else if v2 i 0 = -9 then 0 else v2 i 0) i)), some (.int (nI i)), none, none] [] (wld (tk, tp, bt, (T, C, rc, PF, PS, g, pp, bn, sc), b, crf, nt) u tl)) (q) ?_ ?_ 0 (Nat.zero_le _)
  · refine z_iload d_Lir_grows_29 rfl 31 rfl ?_
    refine z_aload_n d_Lir_grows_31 rfl 32 rfl ?_
    refine z_get d_Lir_grows_32 35 rfl fl_Lir_19_10 wc_0 rfl ?_
    refine z_get d_Lir_grows_35 38 rfl fl_Lir_194_6 wc_3 rfl ?_
    refine z_icmp_ge d_Lir_grows_38 117 41 (by decide) rfl (fun h3 => ?_) (fun hzz => absurd (by rw [hq]; exact Int32.le_refl _) hzz)
    refine z_iload_n d_Lir_grows_117 rfl 118 rfl ?_
    refine z_if_ne d_Lir_grows_118 130 121 (by decide) rfl (fun h4 => ?_) (fun hzz => absurd hzz (by rw [hy]; exact nI_ne0 h0 hy31))
    refine z_iload d_Lir_grows_130 rfl 132 rfl ?_
    refine z_iload_n d_Lir_grows_132 rfl 133 rfl ?_
    refine z_iload_n d_Lir_grows_133 rfl 134 rfl ?_
    rw [hx, hy]
    refine z_invs d_Lir_grows_134 137 rfl hm_Lir_leastTerms lk_Lir_149 st_Lir_leastTerms (r_Lir_leastTerms x y p hx31 hy31 h0) rfl rfl (by decide) rfl rfl (Nat.le_of_ble_eq_true rfl) ?_
    exact z_ireturn d_Lir_grows_137 (rfl) (rfl)
  · intro i hi ih
    obtain ⟨j1, hT1, hj1⟩ := h1p i hi
    obtain ⟨j2, hT2, hj2⟩ := h2p i hi
    refine z_iload d_Lir_grows_29 rfl 31 rfl ?_
    refine z_aload_n d_Lir_grows_31 rfl 32 rfl ?_
    refine z_get d_Lir_grows_32 35 rfl fl_Lir_19_10 wc_0 rfl ?_
    refine z_get d_Lir_grows_35 38 rfl fl_Lir_194_6 wc_3 rfl ?_
    refine z_icmp_ge d_Lir_grows_38 117 41 (by decide) rfl (fun hzz => absurd hzz (by rw [hq]; exact nI_ge hi (by omega))) (fun h5 => ?_)
    refine z_aload_n d_Lir_grows_41 rfl 42 rfl ?_
    refine z_get d_Lir_grows_42 45 rfl fl_Lir_19_10 wc_0 rfl ?_
    refine z_iload d_Lir_grows_45 rfl 47 rfl ?_
    refine z_invv d_Lir_grows_47 50 rfl hm_Roo_firstOfPair lk_Lir_201 im_Roo_firstOfPair sl_Roo_Roo_firstOfPair rfl wc_3 (r_Roo_firstOfPair hq hq10 i _ hi hT1) rfl rfl (by decide) rfl rfl (Nat.le_of_ble_eq_true rfl) ?_
    refine z_astore d_Lir_grows_50 52 rfl (by decide) rfl ?_
    refine z_aload_n d_Lir_grows_52 rfl 53 rfl ?_
    refine z_get d_Lir_grows_53 56 rfl fl_Lir_19_10 wc_0 rfl ?_
    refine z_iload d_Lir_grows_56 rfl 58 rfl ?_
    refine z_invv d_Lir_grows_58 61 rfl hm_Roo_secondOfPair lk_Lir_204 im_Roo_secondOfPair sl_Roo_Roo_secondOfPair rfl wc_3 (r_Roo_secondOfPair hq hq10 i _ hi hT2) rfl rfl (by decide) rfl rfl (Nat.le_of_ble_eq_true rfl) ?_
    refine z_astore d_Lir_grows_61 63 rfl (by decide) rfl ?_
    refine z_aload d_Lir_grows_63 rfl 65 rfl ?_
    refine z_ifnull d_Lir_grows_65 68 rfl ?_
    refine z_aload d_Lir_grows_68 rfl 70 rfl ?_
    refine z_ifnull d_Lir_grows_70 73 rfl ?_
    refine z_aload d_Lir_grows_73 rfl 75 rfl ?_
    refine z_iload_n d_Lir_grows_75 rfl 76 rfl ?_
    refine z_invT d_Lir_grows_76 79 rfl hm_Tel_lacks lk_Lir_207 sm_Tel_lacks im_Tel_lacks (selT_lacks (kci_mem _)) ((wl_tl j1).trans hj1) (r_Tel_lacks _ _ ((wl_tl j1).trans hj1) _) rfl rfl (by decide) rfl rfl (Nat.le_of_ble_eq_true rfl) ?_
    refine z_if_ne d_Lir_grows_79 111 82 (by decide) rfl (fun h6 => ?_) (fun h6 => ?_)
    · have e0 : v1 i 0 = -9 := of_decide_eq_true ((zb_ne _).mp h6)
      refine z_iinc d_Lir_grows_111 1 (by decide) 114 rfl rfl (by decide) rfl ?_
      refine z_goto d_Lir_grows_114 29 (by decide) ?_
      exact z_Lg _ ih (by simp only [sm]; first | (simp [zLw, List.set, nI_succ, e0]; done) | (simp [zLw, List.set, nI_succ, e0, e1]; try rfl))
    · have e0 : ¬ v1 i 0 = -9 := of_decide_eq_false ((zb_eq _).mp h6)
      refine z_aload d_Lir_grows_82 rfl 84 rfl ?_
      refine z_iload_n d_Lir_grows_84 rfl 85 rfl ?_
      refine z_invT d_Lir_grows_85 88 rfl hm_Tel_lacks lk_Lir_207 sm_Tel_lacks im_Tel_lacks (selT_lacks (kci_mem _)) ((wl_tl j2).trans hj2) (r_Tel_lacks _ _ ((wl_tl j2).trans hj2) _) rfl rfl (by decide) rfl rfl (Nat.le_of_ble_eq_true rfl) ?_
      refine z_if_ne d_Lir_grows_88 111 91 (by decide) rfl (fun h7 => ?_) (fun h7 => ?_)
      · have e1 : v2 i 0 = -9 := of_decide_eq_true ((zb_ne _).mp h7)
        refine z_iinc d_Lir_grows_111 1 (by decide) 114 rfl rfl (by decide) rfl ?_
        refine z_goto d_Lir_grows_114 29 (by decide) ?_
        exact z_Lg _ ih (by simp only [sm]; first | (simp [zLw, List.set, nI_succ, e0]; done) | (simp [zLw, List.set, nI_succ, e0, e1]; try rfl))
      · have e1 : ¬ v2 i 0 = -9 := of_decide_eq_false ((zb_eq _).mp h7)
        refine z_iload_n d_Lir_grows_91 rfl 92 rfl ?_
        refine z_aload d_Lir_grows_92 rfl 94 rfl ?_
        refine z_iload_n d_Lir_grows_94 rfl 95 rfl ?_
        refine z_invT d_Lir_grows_95 98 rfl hm_Tel_numberTold lk_Lir_210 sm_Tel_numberTold im_Tel_numberTold (selT_numberTold (kci_mem _)) ((wl_tl j1).trans hj1) (r_Tel_numberTold _ _ ((wl_tl j1).trans hj1) _) rfl rfl (by decide) rfl rfl (Nat.le_of_ble_eq_true rfl) ?_
        refine z_iadd d_Lir_grows_98 99 rfl ?_
        refine z_istore_n d_Lir_grows_99 100 rfl (by decide) rfl ?_
        refine z_iload d_Lir_grows_100 rfl 102 rfl ?_
        refine z_aload d_Lir_grows_102 rfl 104 rfl ?_
        refine z_iload_n d_Lir_grows_104 rfl 105 rfl ?_
        refine z_invT d_Lir_grows_105 108 rfl hm_Tel_numberTold lk_Lir_210 sm_Tel_numberTold im_Tel_numberTold (selT_numberTold (kci_mem _)) ((wl_tl j2).trans hj2) (r_Tel_numberTold _ _ ((wl_tl j2).trans hj2) _) rfl rfl (by decide) rfl rfl (Nat.le_of_ble_eq_true rfl) ?_
        refine z_iadd d_Lir_grows_108 109 rfl ?_
        refine z_istore d_Lir_grows_109 111 rfl (by decide) rfl ?_
        refine z_iinc d_Lir_grows_111 1 (by decide) 114 rfl rfl (by decide) rfl ?_
        refine z_goto d_Lir_grows_114 29 (by decide) ?_
        exact z_Lg _ ih (by simp only [sm]; first | (simp [zLw, List.set, nI_succ, e0]; done) | (simp [zLw, List.set, nI_succ, e0, e1]; try rfl))
set_option maxHeartbeats 400000 in
theorem r_Lir_grows_31 {tk : Int32} {tp bt crf nt : Nat → Int32} {T PF PS : Nat → Option Nat} {C : Nat → Nat → Int32} {rc g pp bn sc : Nat → Int32} {b : zR} {u : zU} {tl : List zC}  {q : Nat} (hq : sc 1 = nI q) (hq10 : q ≤ 10) {v1 v2 : Nat → Nat → Int32} (h1p : PPr tl PF v1 q) (h2p : PPr tl PS v2 q) (p : Int32) (h : inR p 2 = true) (h0 : sm (fun i => if v1 i 1 = -9 then 0 else if v2 i 1 = -9 then 0 else v1 i 1) q = 0) : Ret 6 0 0 m_Lir_grows [.ref 0, .int 1, .int p] (wld (tk, tp, bt, (T, C, rc, PF, PS, g, pp, bn, sc), b, crf, nt) u tl) (some (.int (1000000003))) (wld (tk, tp, bt, (T, C, rc, PF, PS, g, pp, bn, sc), b, rfu crf 3, nt) u tl) := by
  refine Ret.of (n := 5) (by decide) (rfl) rfl (fun X => ?_)
  refine z_iload_n d_Lir_grows_0 rfl 1 rfl ?_
  refine z_invs d_Lir_grows_1 4 rfl hm_Lir_isSizeOrSeconds lk_Lir_124 st_Lir_isSizeOrSeconds (r_Lir_isSizeOrSeconds _) rfl rfl (by decide) rfl rfl (Nat.le_of_ble_eq_true rfl) ?_
  refine z_if_eq d_Lir_grows_4 14 7 (by decide) rfl (fun hzz => absurd hzz (by decide)) (fun h1 => ?_)
  refine z_iload_n d_Lir_grows_7 rfl 8 rfl ?_
  refine z_invs d_Lir_grows_8 11 rfl hm_Lir_isPart lk_Lir_142 st_Lir_isPart (r_Lir_isPart _) rfl rfl (by decide) rfl rfl (Nat.le_of_ble_eq_true rfl) ?_
  refine z_if_ne d_Lir_grows_11 21 14 (by decide) rfl (fun h2 => ?_) (fun hzz => absurd hzz (by rw [h]; decide))
  refine z_iconst d_Lir_grows_21 0 (by decide) 22 rfl ?_
  refine z_istore_n d_Lir_grows_22 23 rfl (by decide) rfl ?_
  refine z_iconst d_Lir_grows_23 0 (by decide) 24 rfl ?_
  refine z_istore d_Lir_grows_24 26 rfl (by decide) rfl ?_
  refine z_iconst d_Lir_grows_26 0 (by decide) 27 rfl ?_
  refine z_istore d_Lir_grows_27 29 rfl (by decide) rfl ?_
  refine z_Lw ([some (.ref 0), some (.int 1), some (.int p), some (.int (sm (fun i => if v1 i 1 = -9 then 0 else if v2 i 1 = -9 then 0 else v1 i 1) 0)), some (.int (sm (fun i => if v1 i 1 = -9 then 0 else if v2 i 1 = -9 then 0 else v2 i 1) 0)), some (.int (nI 0)), none, none]) (by simp [zLw, List.set, zargs, nI_0, sm]) ?_
  refine zloop (fun i => Z X m_Lir_grows 6 0 0 (some (.int (1000000003))) (wld (tk, tp, bt, (T, C, rc, PF, PS, g, pp, bn, sc), b, rfu crf 3, nt) u tl) 29 [some (.ref 0), some (.int 1), some (.int p), some (.int (sm (fun i => if v1 i 1 = -9 then 0 else if v2 i 1 = -9 then 0 else v1 i 1) i)), some (.int (sm (fun i => if v1 i 1 = -9 then 0 else if v2 i 1 = -9 then 0 else v2 i 1) i)), some (.int (nI i)), none, none] [] (wld (tk, tp, bt, (T, C, rc, PF, PS, g, pp, bn, sc), b, crf, nt) u tl)) (q) ?_ ?_ 0 (Nat.zero_le _)
  · refine z_iload d_Lir_grows_29 rfl 31 rfl ?_
    refine z_aload_n d_Lir_grows_31 rfl 32 rfl ?_
    refine z_get d_Lir_grows_32 35 rfl fl_Lir_19_10 wc_0 rfl ?_
    refine z_get d_Lir_grows_35 38 rfl fl_Lir_194_6 wc_3 rfl ?_
    refine z_icmp_ge d_Lir_grows_38 117 41 (by decide) rfl (fun h3 => ?_) (fun hzz => absurd (by rw [hq]; exact Int32.le_refl _) hzz)
    refine z_iload_n d_Lir_grows_117 rfl 118 rfl ?_
    refine z_if_ne d_Lir_grows_118 130 121 (by decide) rfl (fun hzz => absurd h0 hzz) (fun h4 => ?_)
    refine z_aload_n d_Lir_grows_121 rfl 122 rfl ?_
    refine z_bipush d_Lir_grows_122 (-3) (by decide) 124 rfl ?_
    refine z_invv d_Lir_grows_124 127 rfl hm_Lir_refuseAsTold lk_Lir_139 im_Lir_refuseAsTold sl_Lir_Lir_refuseAsTold rfl wc_0 (r_Lir_refuseAsTold (-3) 3 (by decide) (by decide)) rfl rfl (by decide) rfl rfl (Nat.le_of_ble_eq_true rfl) ?_
    refine z_goto d_Lir_grows_127 137 (by decide) ?_
    exact z_ireturn d_Lir_grows_137 (rfl) (rfl)
  · intro i hi ih
    obtain ⟨j1, hT1, hj1⟩ := h1p i hi
    obtain ⟨j2, hT2, hj2⟩ := h2p i hi
    refine z_iload d_Lir_grows_29 rfl 31 rfl ?_
    refine z_aload_n d_Lir_grows_31 rfl 32 rfl ?_
    refine z_get d_Lir_grows_32 35 rfl fl_Lir_19_10 wc_0 rfl ?_
    refine z_get d_Lir_grows_35 38 rfl fl_Lir_194_6 wc_3 rfl ?_
    refine z_icmp_ge d_Lir_grows_38 117 41 (by decide) rfl (fun hzz => absurd hzz (by rw [hq]; exact nI_ge hi (by omega))) (fun h5 => ?_)
    refine z_aload_n d_Lir_grows_41 rfl 42 rfl ?_
    refine z_get d_Lir_grows_42 45 rfl fl_Lir_19_10 wc_0 rfl ?_
    refine z_iload d_Lir_grows_45 rfl 47 rfl ?_
    refine z_invv d_Lir_grows_47 50 rfl hm_Roo_firstOfPair lk_Lir_201 im_Roo_firstOfPair sl_Roo_Roo_firstOfPair rfl wc_3 (r_Roo_firstOfPair hq hq10 i _ hi hT1) rfl rfl (by decide) rfl rfl (Nat.le_of_ble_eq_true rfl) ?_
    refine z_astore d_Lir_grows_50 52 rfl (by decide) rfl ?_
    refine z_aload_n d_Lir_grows_52 rfl 53 rfl ?_
    refine z_get d_Lir_grows_53 56 rfl fl_Lir_19_10 wc_0 rfl ?_
    refine z_iload d_Lir_grows_56 rfl 58 rfl ?_
    refine z_invv d_Lir_grows_58 61 rfl hm_Roo_secondOfPair lk_Lir_204 im_Roo_secondOfPair sl_Roo_Roo_secondOfPair rfl wc_3 (r_Roo_secondOfPair hq hq10 i _ hi hT2) rfl rfl (by decide) rfl rfl (Nat.le_of_ble_eq_true rfl) ?_
    refine z_astore d_Lir_grows_61 63 rfl (by decide) rfl ?_
    refine z_aload d_Lir_grows_63 rfl 65 rfl ?_
    refine z_ifnull d_Lir_grows_65 68 rfl ?_
    refine z_aload d_Lir_grows_68 rfl 70 rfl ?_
    refine z_ifnull d_Lir_grows_70 73 rfl ?_
    refine z_aload d_Lir_grows_73 rfl 75 rfl ?_
    refine z_iload_n d_Lir_grows_75 rfl 76 rfl ?_
    refine z_invT d_Lir_grows_76 79 rfl hm_Tel_lacks lk_Lir_207 sm_Tel_lacks im_Tel_lacks (selT_lacks (kci_mem _)) ((wl_tl j1).trans hj1) (r_Tel_lacks _ _ ((wl_tl j1).trans hj1) _) rfl rfl (by decide) rfl rfl (Nat.le_of_ble_eq_true rfl) ?_
    refine z_if_ne d_Lir_grows_79 111 82 (by decide) rfl (fun h6 => ?_) (fun h6 => ?_)
    · have e0 : v1 i 1 = -9 := of_decide_eq_true ((zb_ne _).mp h6)
      refine z_iinc d_Lir_grows_111 1 (by decide) 114 rfl rfl (by decide) rfl ?_
      refine z_goto d_Lir_grows_114 29 (by decide) ?_
      exact z_Lg _ ih (by simp only [sm]; first | (simp [zLw, List.set, nI_succ, e0]; done) | (simp [zLw, List.set, nI_succ, e0, e1]; try rfl))
    · have e0 : ¬ v1 i 1 = -9 := of_decide_eq_false ((zb_eq _).mp h6)
      refine z_aload d_Lir_grows_82 rfl 84 rfl ?_
      refine z_iload_n d_Lir_grows_84 rfl 85 rfl ?_
      refine z_invT d_Lir_grows_85 88 rfl hm_Tel_lacks lk_Lir_207 sm_Tel_lacks im_Tel_lacks (selT_lacks (kci_mem _)) ((wl_tl j2).trans hj2) (r_Tel_lacks _ _ ((wl_tl j2).trans hj2) _) rfl rfl (by decide) rfl rfl (Nat.le_of_ble_eq_true rfl) ?_
      refine z_if_ne d_Lir_grows_88 111 91 (by decide) rfl (fun h7 => ?_) (fun h7 => ?_)
      · have e1 : v2 i 1 = -9 := of_decide_eq_true ((zb_ne _).mp h7)
        refine z_iinc d_Lir_grows_111 1 (by decide) 114 rfl rfl (by decide) rfl ?_
        refine z_goto d_Lir_grows_114 29 (by decide) ?_
        exact z_Lg _ ih (by simp only [sm]; first | (simp [zLw, List.set, nI_succ, e0]; done) | (simp [zLw, List.set, nI_succ, e0, e1]; try rfl))
      · have e1 : ¬ v2 i 1 = -9 := of_decide_eq_false ((zb_eq _).mp h7)
        refine z_iload_n d_Lir_grows_91 rfl 92 rfl ?_
        refine z_aload d_Lir_grows_92 rfl 94 rfl ?_
        refine z_iload_n d_Lir_grows_94 rfl 95 rfl ?_
        refine z_invT d_Lir_grows_95 98 rfl hm_Tel_numberTold lk_Lir_210 sm_Tel_numberTold im_Tel_numberTold (selT_numberTold (kci_mem _)) ((wl_tl j1).trans hj1) (r_Tel_numberTold _ _ ((wl_tl j1).trans hj1) _) rfl rfl (by decide) rfl rfl (Nat.le_of_ble_eq_true rfl) ?_
        refine z_iadd d_Lir_grows_98 99 rfl ?_
        refine z_istore_n d_Lir_grows_99 100 rfl (by decide) rfl ?_
        refine z_iload d_Lir_grows_100 rfl 102 rfl ?_
        refine z_aload d_Lir_grows_102 rfl 104 rfl ?_
        refine z_iload_n d_Lir_grows_104 rfl 105 rfl ?_
        refine z_invT d_Lir_grows_105 108 rfl hm_Tel_numberTold lk_Lir_210 sm_Tel_numberTold im_Tel_numberTold (selT_numberTold (kci_mem _)) ((wl_tl j2).trans hj2) (r_Tel_numberTold _ _ ((wl_tl j2).trans hj2) _) rfl rfl (by decide) rfl rfl (Nat.le_of_ble_eq_true rfl) ?_
        refine z_iadd d_Lir_grows_108 109 rfl ?_
        refine z_istore d_Lir_grows_109 111 rfl (by decide) rfl ?_
        refine z_iinc d_Lir_grows_111 1 (by decide) 114 rfl rfl (by decide) rfl ?_
        refine z_goto d_Lir_grows_114 29 (by decide) ?_
        exact z_Lg _ ih (by simp only [sm]; first | (simp [zLw, List.set, nI_succ, e0]; done) | (simp [zLw, List.set, nI_succ, e0, e1]; try rfl))
set_option maxHeartbeats 400000 in
theorem r_Lir_grows_01 {tk : Int32} {tp bt crf nt : Nat → Int32} {T PF PS : Nat → Option Nat} {C : Nat → Nat → Int32} {rc g pp bn sc : Nat → Int32} {b : zR} {u : zU} {tl : List zC}  {q : Nat} (hq : sc 1 = nI q) (hq10 : q ≤ 10) {v1 v2 : Nat → Nat → Int32} (h1p : PPr tl PF v1 q) (h2p : PPr tl PS v2 q) (p : Int32) (h : inR p 2 = true) (x y : Nat) (hx : sm (fun i => if v1 i 1 = -9 then 0 else if v2 i 1 = -9 then 0 else v2 i 1) q = nI x) (hy : sm (fun i => if v1 i 1 = -9 then 0 else if v2 i 1 = -9 then 0 else v1 i 1) q = nI y) (hx31 : x < 2 ^ 31) (hy31 : y < 2 ^ 31) (h0 : 0 < y) : Ret 6 0 0 m_Lir_grows [.ref 0, .int 1, .int p] (wld (tk, tp, bt, (T, C, rc, PF, PS, g, pp, bn, sc), b, crf, nt) u tl) (some (.int (psV x y p))) (wld (tk, tp, bt, (T, C, rc, PF, PS, g, pp, bn, sc), b, crf, nt) u tl) := by
  refine Ret.of (n := 5) (by decide) (rfl) rfl (fun X => ?_)
  refine z_iload_n d_Lir_grows_0 rfl 1 rfl ?_
  refine z_invs d_Lir_grows_1 4 rfl hm_Lir_isSizeOrSeconds lk_Lir_124 st_Lir_isSizeOrSeconds (r_Lir_isSizeOrSeconds _) rfl rfl (by decide) rfl rfl (Nat.le_of_ble_eq_true rfl) ?_
  refine z_if_eq d_Lir_grows_4 14 7 (by decide) rfl (fun hzz => absurd hzz (by decide)) (fun h1 => ?_)
  refine z_iload_n d_Lir_grows_7 rfl 8 rfl ?_
  refine z_invs d_Lir_grows_8 11 rfl hm_Lir_isPart lk_Lir_142 st_Lir_isPart (r_Lir_isPart _) rfl rfl (by decide) rfl rfl (Nat.le_of_ble_eq_true rfl) ?_
  refine z_if_ne d_Lir_grows_11 21 14 (by decide) rfl (fun h2 => ?_) (fun hzz => absurd hzz (by rw [h]; decide))
  refine z_iconst d_Lir_grows_21 0 (by decide) 22 rfl ?_
  refine z_istore_n d_Lir_grows_22 23 rfl (by decide) rfl ?_
  refine z_iconst d_Lir_grows_23 0 (by decide) 24 rfl ?_
  refine z_istore d_Lir_grows_24 26 rfl (by decide) rfl ?_
  refine z_iconst d_Lir_grows_26 0 (by decide) 27 rfl ?_
  refine z_istore d_Lir_grows_27 29 rfl (by decide) rfl ?_
  refine z_Lw ([some (.ref 0), some (.int 1), some (.int p), some (.int (sm (fun i => if v1 i 1 = -9 then 0 else if v2 i 1 = -9 then 0 else v1 i 1) 0)), some (.int (sm (fun i => if v1 i 1 = -9 then 0 else if v2 i 1 = -9 then 0 else v2 i 1) 0)), some (.int (nI 0)), none, none]) (by simp [zLw, List.set, zargs, nI_0, sm]) ?_
  refine zloop (fun i => Z X m_Lir_grows 6 0 0 (some (.int (psV x y p))) (wld (tk, tp, bt, (T, C, rc, PF, PS, g, pp, bn, sc), b, crf, nt) u tl) 29 [some (.ref 0), some (.int 1), some (.int p), some (.int (sm (fun i => if v1 i 1 = -9 then 0 else if v2 i 1 = -9 then 0 else v1 i 1) i)), some (.int (sm (fun i => if v1 i 1 = -9 then 0 else if v2 i 1 = -9 then 0 else v2 i 1) i)), some (.int (nI i)), none, none] [] (wld (tk, tp, bt, (T, C, rc, PF, PS, g, pp, bn, sc), b, crf, nt) u tl)) (q) ?_ ?_ 0 (Nat.zero_le _)
  · refine z_iload d_Lir_grows_29 rfl 31 rfl ?_
    refine z_aload_n d_Lir_grows_31 rfl 32 rfl ?_
    refine z_get d_Lir_grows_32 35 rfl fl_Lir_19_10 wc_0 rfl ?_
    refine z_get d_Lir_grows_35 38 rfl fl_Lir_194_6 wc_3 rfl ?_
    refine z_icmp_ge d_Lir_grows_38 117 41 (by decide) rfl (fun h3 => ?_) (fun hzz => absurd (by rw [hq]; exact Int32.le_refl _) hzz)
    refine z_iload_n d_Lir_grows_117 rfl 118 rfl ?_
    refine z_if_ne d_Lir_grows_118 130 121 (by decide) rfl (fun h4 => ?_) (fun hzz => absurd hzz (by rw [hy]; exact nI_ne0 h0 hy31))
    refine z_iload d_Lir_grows_130 rfl 132 rfl ?_
    refine z_iload_n d_Lir_grows_132 rfl 133 rfl ?_
    refine z_iload_n d_Lir_grows_133 rfl 134 rfl ?_
    rw [hx, hy]
    refine z_invs d_Lir_grows_134 137 rfl hm_Lir_leastTerms lk_Lir_149 st_Lir_leastTerms (r_Lir_leastTerms x y p hx31 hy31 h0) rfl rfl (by decide) rfl rfl (Nat.le_of_ble_eq_true rfl) ?_
    exact z_ireturn d_Lir_grows_137 (rfl) (rfl)
  · intro i hi ih
    obtain ⟨j1, hT1, hj1⟩ := h1p i hi
    obtain ⟨j2, hT2, hj2⟩ := h2p i hi
    refine z_iload d_Lir_grows_29 rfl 31 rfl ?_
    refine z_aload_n d_Lir_grows_31 rfl 32 rfl ?_
    refine z_get d_Lir_grows_32 35 rfl fl_Lir_19_10 wc_0 rfl ?_
    refine z_get d_Lir_grows_35 38 rfl fl_Lir_194_6 wc_3 rfl ?_
    refine z_icmp_ge d_Lir_grows_38 117 41 (by decide) rfl (fun hzz => absurd hzz (by rw [hq]; exact nI_ge hi (by omega))) (fun h5 => ?_)
    refine z_aload_n d_Lir_grows_41 rfl 42 rfl ?_
    refine z_get d_Lir_grows_42 45 rfl fl_Lir_19_10 wc_0 rfl ?_
    refine z_iload d_Lir_grows_45 rfl 47 rfl ?_
    refine z_invv d_Lir_grows_47 50 rfl hm_Roo_firstOfPair lk_Lir_201 im_Roo_firstOfPair sl_Roo_Roo_firstOfPair rfl wc_3 (r_Roo_firstOfPair hq hq10 i _ hi hT1) rfl rfl (by decide) rfl rfl (Nat.le_of_ble_eq_true rfl) ?_
    refine z_astore d_Lir_grows_50 52 rfl (by decide) rfl ?_
    refine z_aload_n d_Lir_grows_52 rfl 53 rfl ?_
    refine z_get d_Lir_grows_53 56 rfl fl_Lir_19_10 wc_0 rfl ?_
    refine z_iload d_Lir_grows_56 rfl 58 rfl ?_
    refine z_invv d_Lir_grows_58 61 rfl hm_Roo_secondOfPair lk_Lir_204 im_Roo_secondOfPair sl_Roo_Roo_secondOfPair rfl wc_3 (r_Roo_secondOfPair hq hq10 i _ hi hT2) rfl rfl (by decide) rfl rfl (Nat.le_of_ble_eq_true rfl) ?_
    refine z_astore d_Lir_grows_61 63 rfl (by decide) rfl ?_
    refine z_aload d_Lir_grows_63 rfl 65 rfl ?_
    refine z_ifnull d_Lir_grows_65 68 rfl ?_
    refine z_aload d_Lir_grows_68 rfl 70 rfl ?_
    refine z_ifnull d_Lir_grows_70 73 rfl ?_
    refine z_aload d_Lir_grows_73 rfl 75 rfl ?_
    refine z_iload_n d_Lir_grows_75 rfl 76 rfl ?_
    refine z_invT d_Lir_grows_76 79 rfl hm_Tel_lacks lk_Lir_207 sm_Tel_lacks im_Tel_lacks (selT_lacks (kci_mem _)) ((wl_tl j1).trans hj1) (r_Tel_lacks _ _ ((wl_tl j1).trans hj1) _) rfl rfl (by decide) rfl rfl (Nat.le_of_ble_eq_true rfl) ?_
    refine z_if_ne d_Lir_grows_79 111 82 (by decide) rfl (fun h6 => ?_) (fun h6 => ?_)
    · have e0 : v1 i 1 = -9 := of_decide_eq_true ((zb_ne _).mp h6)
      refine z_iinc d_Lir_grows_111 1 (by decide) 114 rfl rfl (by decide) rfl ?_
      refine z_goto d_Lir_grows_114 29 (by decide) ?_
      exact z_Lg _ ih (by simp only [sm]; first | (simp [zLw, List.set, nI_succ, e0]; done) | (simp [zLw, List.set, nI_succ, e0, e1]; try rfl))
    · have e0 : ¬ v1 i 1 = -9 := of_decide_eq_false ((zb_eq _).mp h6)
      refine z_aload d_Lir_grows_82 rfl 84 rfl ?_
      refine z_iload_n d_Lir_grows_84 rfl 85 rfl ?_
      refine z_invT d_Lir_grows_85 88 rfl hm_Tel_lacks lk_Lir_207 sm_Tel_lacks im_Tel_lacks (selT_lacks (kci_mem _)) ((wl_tl j2).trans hj2) (r_Tel_lacks _ _ ((wl_tl j2).trans hj2) _) rfl rfl (by decide) rfl rfl (Nat.le_of_ble_eq_true rfl) ?_
      refine z_if_ne d_Lir_grows_88 111 91 (by decide) rfl (fun h7 => ?_) (fun h7 => ?_)
      · have e1 : v2 i 1 = -9 := of_decide_eq_true ((zb_ne _).mp h7)
        refine z_iinc d_Lir_grows_111 1 (by decide) 114 rfl rfl (by decide) rfl ?_
        refine z_goto d_Lir_grows_114 29 (by decide) ?_
        exact z_Lg _ ih (by simp only [sm]; first | (simp [zLw, List.set, nI_succ, e0]; done) | (simp [zLw, List.set, nI_succ, e0, e1]; try rfl))
      · have e1 : ¬ v2 i 1 = -9 := of_decide_eq_false ((zb_eq _).mp h7)
        refine z_iload_n d_Lir_grows_91 rfl 92 rfl ?_
        refine z_aload d_Lir_grows_92 rfl 94 rfl ?_
        refine z_iload_n d_Lir_grows_94 rfl 95 rfl ?_
        refine z_invT d_Lir_grows_95 98 rfl hm_Tel_numberTold lk_Lir_210 sm_Tel_numberTold im_Tel_numberTold (selT_numberTold (kci_mem _)) ((wl_tl j1).trans hj1) (r_Tel_numberTold _ _ ((wl_tl j1).trans hj1) _) rfl rfl (by decide) rfl rfl (Nat.le_of_ble_eq_true rfl) ?_
        refine z_iadd d_Lir_grows_98 99 rfl ?_
        refine z_istore_n d_Lir_grows_99 100 rfl (by decide) rfl ?_
        refine z_iload d_Lir_grows_100 rfl 102 rfl ?_
        refine z_aload d_Lir_grows_102 rfl 104 rfl ?_
        refine z_iload_n d_Lir_grows_104 rfl 105 rfl ?_
        refine z_invT d_Lir_grows_105 108 rfl hm_Tel_numberTold lk_Lir_210 sm_Tel_numberTold im_Tel_numberTold (selT_numberTold (kci_mem _)) ((wl_tl j2).trans hj2) (r_Tel_numberTold _ _ ((wl_tl j2).trans hj2) _) rfl rfl (by decide) rfl rfl (Nat.le_of_ble_eq_true rfl) ?_
        refine z_iadd d_Lir_grows_108 109 rfl ?_
        refine z_istore d_Lir_grows_109 111 rfl (by decide) rfl ?_
        refine z_iinc d_Lir_grows_111 1 (by decide) 114 rfl rfl (by decide) rfl ?_
        refine z_goto d_Lir_grows_114 29 (by decide) ?_
        exact z_Lg _ ih (by simp only [sm]; first | (simp [zLw, List.set, nI_succ, e0]; done) | (simp [zLw, List.set, nI_succ, e0, e1]; try rfl))
def frC (pp : Nat → Int32) (c : Int32) : Nat → Int32 × Int32
  | 0 => (-1, -1)
  | i + 1 => if mkd c (nI i) = true then frC pp c i else if pp i ≤ (frC pp c i).2 then frC pp c i else (nI i, pp i)
def glC (pp : Nat → Int32) (r : Nat) : Nat → Int32
  | 0 => 0
  | i + 1 => if (frC pp (glC pp r i) r).1 < 0 then glC pp r i else glC pp r i ||| 1 <<< ((frC pp (glC pp r i) r).1 &&& 31)
set_option maxHeartbeats 400000 in
theorem r_Roo_fullestRing {tk : Int32} {tp bt crf nt : Nat → Int32} {T PF PS : Nat → Option Nat} {C : Nat → Nat → Int32} {rc g pp bn sc : Nat → Int32} {b : zR} {u : zU} {tl : List zC} (r : Nat) (hr : r ≤ 10) (c : Int32) : Ret 1 0 0 m_Roo_fullestRing [.ref 3, .int (nI r), .int c] (wld (tk, tp, bt, (T, C, rc, PF, PS, g, pp, bn, sc), b, crf, nt) u tl) (some (.int (frC pp c r).1)) (wld (tk, tp, bt, (T, C, rc, PF, PS, g, pp, bn, sc), b, crf, nt) u tl) := by
  refine Ret.of (n := 3) (by decide) (rfl) rfl (fun X => ?_)
  refine z_iconst d_Roo_fullestRing_0 (-1) (by decide) 1 rfl ?_
  refine z_istore_n d_Roo_fullestRing_1 2 rfl (by decide) rfl ?_
  refine z_iconst d_Roo_fullestRing_2 (-1) (by decide) 3 rfl ?_
  refine z_istore d_Roo_fullestRing_3 5 rfl (by decide) rfl ?_
  refine z_iconst d_Roo_fullestRing_5 0 (by decide) 6 rfl ?_
  refine z_istore d_Roo_fullestRing_6 8 rfl (by decide) rfl ?_
  refine z_Lw ([some (.ref 3), some (.int (nI r)), some (.int c), some (.int ((frC pp c 0).1)), some (.int ((frC pp c 0).2)), some (.int (nI 0))]) (by simp [zLw, List.set, zargs, nI_0, frC]) ?_
  refine zloop (fun i => Z X m_Roo_fullestRing 1 0 0 (some (.int (frC pp c r).1)) (wld (tk, tp, bt, (T, C, rc, PF, PS, g, pp, bn, sc), b, crf, nt) u tl) 8 [some (.ref 3), some (.int (nI r)), some (.int c), some (.int ((frC pp c i).1)), some (.int ((frC pp c i).2)), some (.int (nI i))] [] (wld (tk, tp, bt, (T, C, rc, PF, PS, g, pp, bn, sc), b, crf, nt) u tl)) (r) ?_ ?_ 0 (Nat.zero_le _)
  · refine z_iload d_Roo_fullestRing_8 rfl 10 rfl ?_
    refine z_iload_n d_Roo_fullestRing_10 rfl 11 rfl ?_
    refine z_icmp_ge d_Roo_fullestRing_11 63 14 (by decide) rfl (fun h1 => ?_) (fun hzz => absurd (Int32.le_refl _) hzz)
    refine z_iload_n d_Roo_fullestRing_63 rfl 64 rfl ?_
    exact z_ireturn d_Roo_fullestRing_64 (rfl) (rfl)
  · intro i hi ih
    refine z_iload d_Roo_fullestRing_8 rfl 10 rfl ?_
    refine z_iload_n d_Roo_fullestRing_10 rfl 11 rfl ?_
    refine z_icmp_ge d_Roo_fullestRing_11 63 14 (by decide) rfl (fun hzz => absurd hzz (nI_ge hi (by omega))) (fun h2 => ?_)
    refine z_iload d_Roo_fullestRing_14 rfl 16 rfl ?_
    refine z_aload_n d_Roo_fullestRing_16 rfl 17 rfl ?_
    refine z_get d_Roo_fullestRing_17 20 rfl fl_Roo_34_6 wc_3 rfl ?_
    refine z_alenI d_Roo_fullestRing_20 21 rfl wc_21 10 (by decide) ?_
    refine z_icmp_ge d_Roo_fullestRing_21 63 24 (by decide) rfl (fun hzz => absurd hzz (show ¬ nI 10 ≤ nI i from nI_ge (by omega) (by decide))) (fun h3 => ?_)
    refine z_iload_n d_Roo_fullestRing_24 rfl 25 rfl ?_
    refine z_iload d_Roo_fullestRing_25 rfl 27 rfl ?_
    refine z_invSN d_Roo_fullestRing_27 30 rfl hm_Lir_hasBit (by decide) st_Lir_hasBit (r_Lir_hasBit _ _) rfl rfl (by decide) rfl rfl (Nat.le_of_ble_eq_true rfl) ?_
    refine z_if_ne d_Roo_fullestRing_30 57 33 (by decide) rfl (fun h4 => ?_) (fun h4 => ?_)
    · have e2 : frC pp c (i + 1) = frC pp c i := by simp only [frC]; rw [if_pos ((zb_ne _).mp h4)]
      refine z_iinc d_Roo_fullestRing_57 1 (by decide) 60 rfl rfl (by decide) rfl ?_
      refine z_goto d_Roo_fullestRing_60 8 (by decide) ?_
      exact z_Lg _ ih (by rw [e2]; simp [zLw, List.set, nI_succ])
    · have e1 : ¬ mkd c (nI i) = true := by rw [(zb_eq _).mp h4]; decide
      refine z_aload_n d_Roo_fullestRing_33 rfl 34 rfl ?_
      refine z_get d_Roo_fullestRing_34 37 rfl fl_Roo_34_6 wc_3 rfl ?_
      refine z_iload d_Roo_fullestRing_37 rfl 39 rfl ?_
      refine z_iaload d_Roo_fullestRing_39 (i) 40 rfl wc_21 (rfl) (by omega) (by decide) ?_
      refine z_iload d_Roo_fullestRing_40 rfl 42 rfl ?_
      refine z_icmp_le d_Roo_fullestRing_42 57 45 (by decide) rfl (fun h5 => ?_) (fun h5 => ?_)
      · have e2 : frC pp c (i + 1) = frC pp c i := by simp only [frC]; rw [if_neg e1, if_pos h5]
        refine z_iinc d_Roo_fullestRing_57 1 (by decide) 60 rfl rfl (by decide) rfl ?_
        refine z_goto d_Roo_fullestRing_60 8 (by decide) ?_
        exact z_Lg _ ih (by rw [e2]; simp [zLw, List.set, nI_succ])
      · have e2 : frC pp c (i + 1) = (nI i, pp i) := by simp only [frC]; rw [if_neg e1, if_neg h5]
        refine z_iload d_Roo_fullestRing_45 rfl 47 rfl ?_
        refine z_istore_n d_Roo_fullestRing_47 48 rfl (by decide) rfl ?_
        refine z_aload_n d_Roo_fullestRing_48 rfl 49 rfl ?_
        refine z_get d_Roo_fullestRing_49 52 rfl fl_Roo_34_6 wc_3 rfl ?_
        refine z_iload d_Roo_fullestRing_52 rfl 54 rfl ?_
        refine z_iaload d_Roo_fullestRing_54 (i) 55 rfl wc_21 (rfl) (by omega) (by decide) ?_
        refine z_istore d_Roo_fullestRing_55 57 rfl (by decide) rfl ?_
        refine z_iinc d_Roo_fullestRing_57 1 (by decide) 60 rfl rfl (by decide) rfl ?_
        refine z_goto d_Roo_fullestRing_60 8 (by decide) ?_
        exact z_Lg _ ih (by rw [e2]; simp [zLw, List.set, nI_succ])
set_option maxHeartbeats 400000 in
theorem r_Lir_glasses_1 {tk : Int32} {tp bt crf nt : Nat → Int32} {T PF PS : Nat → Option Nat} {C : Nat → Nat → Int32} {rc g pp bn sc : Nat → Int32} {b : zR} {u : zU} {tl : List zC}  (l m : Int32) (h : inR l 6 = false) : Ret 6 0 0 m_Lir_glasses [.ref 0, .int l, .int m] (wld (tk, tp, bt, (T, C, rc, PF, PS, g, pp, bn, sc), b, crf, nt) u tl) (some (.int (-1))) (wld (tk, tp, bt, (T, C, rc, PF, PS, g, pp, bn, sc), b, rfu crf 1, nt) u tl) := by
  refine Ret.of (n := 5) (by decide) (rfl) rfl (fun X => ?_)
  refine z_aload_n d_Lir_glasses_0 rfl 1 rfl ?_
  refine z_get d_Lir_glasses_1 4 rfl fl_Lir_19_10 wc_0 rfl ?_
  refine z_iload_n d_Lir_glasses_4 rfl 5 rfl ?_
  refine z_invv d_Lir_glasses_5 8 rfl hm_Roo_lawAt lk_Lir_104 im_Roo_lawAt sl_Roo_Roo_lawAt rfl wc_3 (r_Roo_lawAt_n l h) rfl rfl (by decide) rfl rfl (Nat.le_of_ble_eq_true rfl) ?_
  refine z_astore_nN d_Lir_glasses_8 9 rfl (by decide) rfl ?_
  refine z_aload_nN d_Lir_glasses_9 rfl 10 rfl ?_
  refine z_ifnonnullN d_Lir_glasses_10 13 rfl ?_
  refine z_aload_n d_Lir_glasses_13 rfl 14 rfl ?_
  refine z_iconst d_Lir_glasses_14 (-1) (by decide) 15 rfl ?_
  refine z_invv d_Lir_glasses_15 18 rfl hm_Lir_refuse lk_Lir_37 im_Lir_refuse sl_Lir_Lir_refuse rfl wc_0 (r_Lir_refuse (-1) 1 (by decide) (by decide)) rfl rfl (by decide) rfl rfl (Nat.le_of_ble_eq_true rfl) ?_
  exact z_ireturn d_Lir_glasses_18 (rfl) (rfl)
set_option maxHeartbeats 400000 in
theorem r_Lir_glasses_4 {tk : Int32} {tp bt crf nt : Nat → Int32} {T PF PS : Nat → Option Nat} {C : Nat → Nat → Int32} {rc g pp bn sc : Nat → Int32} {b : zR} {u : zU} {tl : List zC}  (l : Nat) (hl : l < 6) (m : Int32) (hw : m < 1) : Ret 6 0 0 m_Lir_glasses [.ref 0, .int (nI l), .int m] (wld (tk, tp, bt, (T, C, rc, PF, PS, g, pp, bn, sc), b, crf, nt) u tl) (some (.int (-4))) (wld (tk, tp, bt, (T, C, rc, PF, PS, g, pp, bn, sc), b, rfu crf 4, nt) u tl) := by
  refine Ret.of (n := 5) (by decide) (rfl) rfl (fun X => ?_)
  refine z_aload_n d_Lir_glasses_0 rfl 1 rfl ?_
  refine z_get d_Lir_glasses_1 4 rfl fl_Lir_19_10 wc_0 rfl ?_
  refine z_iload_n d_Lir_glasses_4 rfl 5 rfl ?_
  refine z_invv d_Lir_glasses_5 8 rfl hm_Roo_lawAt lk_Lir_104 im_Roo_lawAt sl_Roo_Roo_lawAt rfl wc_3 (r_Roo_lawAt_s l hl) rfl rfl (by decide) rfl rfl (Nat.le_of_ble_eq_true rfl) ?_
  refine z_astore_n d_Lir_glasses_8 9 rfl (by decide) rfl ?_
  refine z_aload_n d_Lir_glasses_9 rfl 10 rfl ?_
  refine z_ifnonnull d_Lir_glasses_10 19 (by decide) ?_
  refine z_iload_n d_Lir_glasses_19 rfl 20 rfl ?_
  refine z_iconst d_Lir_glasses_20 1 (by decide) 21 rfl ?_
  refine z_iconst d_Lir_glasses_21 5 (by decide) 22 rfl ?_
  refine z_invs d_Lir_glasses_22 25 rfl hm_Lir_outside lk_Lir_108 st_Lir_outside (r_Lir_outside_1 _ _ _ hw) rfl rfl (by decide) rfl rfl (Nat.le_of_ble_eq_true rfl) ?_
  refine z_istore d_Lir_glasses_25 27 rfl (by decide) rfl ?_
  refine z_iload d_Lir_glasses_27 rfl 29 rfl ?_
  refine z_if_eq d_Lir_glasses_29 39 32 (by decide) rfl (fun hzz => absurd hzz (by decide)) (fun h1 => ?_)
  refine z_aload_n d_Lir_glasses_32 rfl 33 rfl ?_
  refine z_iload d_Lir_glasses_33 rfl 35 rfl ?_
  refine z_invv d_Lir_glasses_35 38 rfl hm_Lir_refuse lk_Lir_37 im_Lir_refuse sl_Lir_Lir_refuse rfl wc_0 (r_Lir_refuse (-4) 4 (by decide) (by decide)) rfl rfl (by decide) rfl rfl (Nat.le_of_ble_eq_true rfl) ?_
  exact z_ireturn d_Lir_glasses_38 (rfl) (rfl)
set_option maxHeartbeats 400000 in
theorem r_Lir_glasses_6 {tk : Int32} {tp bt crf nt : Nat → Int32} {T PF PS : Nat → Option Nat} {C : Nat → Nat → Int32} {rc g pp bn sc : Nat → Int32} {b : zR} {u : zU} {tl : List zC}  (l : Nat) (hl : l < 6) (m : Int32) (hw : ¬ m < 1) (hv : 5 < m) : Ret 6 0 0 m_Lir_glasses [.ref 0, .int (nI l), .int m] (wld (tk, tp, bt, (T, C, rc, PF, PS, g, pp, bn, sc), b, crf, nt) u tl) (some (.int (-6))) (wld (tk, tp, bt, (T, C, rc, PF, PS, g, pp, bn, sc), b, rfu crf 6, nt) u tl) := by
  refine Ret.of (n := 5) (by decide) (rfl) rfl (fun X => ?_)
  refine z_aload_n d_Lir_glasses_0 rfl 1 rfl ?_
  refine z_get d_Lir_glasses_1 4 rfl fl_Lir_19_10 wc_0 rfl ?_
  refine z_iload_n d_Lir_glasses_4 rfl 5 rfl ?_
  refine z_invv d_Lir_glasses_5 8 rfl hm_Roo_lawAt lk_Lir_104 im_Roo_lawAt sl_Roo_Roo_lawAt rfl wc_3 (r_Roo_lawAt_s l hl) rfl rfl (by decide) rfl rfl (Nat.le_of_ble_eq_true rfl) ?_
  refine z_astore_n d_Lir_glasses_8 9 rfl (by decide) rfl ?_
  refine z_aload_n d_Lir_glasses_9 rfl 10 rfl ?_
  refine z_ifnonnull d_Lir_glasses_10 19 (by decide) ?_
  refine z_iload_n d_Lir_glasses_19 rfl 20 rfl ?_
  refine z_iconst d_Lir_glasses_20 1 (by decide) 21 rfl ?_
  refine z_iconst d_Lir_glasses_21 5 (by decide) 22 rfl ?_
  refine z_invs d_Lir_glasses_22 25 rfl hm_Lir_outside lk_Lir_108 st_Lir_outside (r_Lir_outside_2 _ _ _ hw hv) rfl rfl (by decide) rfl rfl (Nat.le_of_ble_eq_true rfl) ?_
  refine z_istore d_Lir_glasses_25 27 rfl (by decide) rfl ?_
  refine z_iload d_Lir_glasses_27 rfl 29 rfl ?_
  refine z_if_eq d_Lir_glasses_29 39 32 (by decide) rfl (fun hzz => absurd hzz (by decide)) (fun h1 => ?_)
  refine z_aload_n d_Lir_glasses_32 rfl 33 rfl ?_
  refine z_iload d_Lir_glasses_33 rfl 35 rfl ?_
  refine z_invv d_Lir_glasses_35 38 rfl hm_Lir_refuse lk_Lir_37 im_Lir_refuse sl_Lir_Lir_refuse rfl wc_0 (r_Lir_refuse (-6) 6 (by decide) (by decide)) rfl rfl (by decide) rfl rfl (Nat.le_of_ble_eq_true rfl) ?_
  exact z_ireturn d_Lir_glasses_38 (rfl) (rfl)
set_option maxHeartbeats 400000 in
theorem r_Lir_glasses_0 {tk : Int32} {tp bt crf nt : Nat → Int32} {T PF PS : Nat → Option Nat} {C : Nat → Nat → Int32} {rc g pp bn sc : Nat → Int32} {b : zR} {u : zU} {tl : List zC}  (l m r : Nat) (hl : l < 6) (hm1 : 1 ≤ m) (hm5 : m ≤ 5) (hr : rc l = nI r) (hr10 : r ≤ 10) : Ret 6 0 0 m_Lir_glasses [.ref 0, .int (nI l), .int (nI m)] (wld (tk, tp, bt, (T, C, rc, PF, PS, g, pp, bn, sc), b, crf, nt) u tl) (some (.int (glC pp r m))) (wld (tk, tp, bt, (T, C, rc, PF, PS, g, pp, bn, sc), b, crf, nt) u tl) := by
  refine Ret.of (n := 5) (by decide) (rfl) rfl (fun X => ?_)
  refine z_aload_n d_Lir_glasses_0 rfl 1 rfl ?_
  refine z_get d_Lir_glasses_1 4 rfl fl_Lir_19_10 wc_0 rfl ?_
  refine z_iload_n d_Lir_glasses_4 rfl 5 rfl ?_
  refine z_invv d_Lir_glasses_5 8 rfl hm_Roo_lawAt lk_Lir_104 im_Roo_lawAt sl_Roo_Roo_lawAt rfl wc_3 (r_Roo_lawAt_s l hl) rfl rfl (by decide) rfl rfl (Nat.le_of_ble_eq_true rfl) ?_
  refine z_astore_n d_Lir_glasses_8 9 rfl (by decide) rfl ?_
  refine z_aload_n d_Lir_glasses_9 rfl 10 rfl ?_
  refine z_ifnonnull d_Lir_glasses_10 19 (by decide) ?_
  refine z_iload_n d_Lir_glasses_19 rfl 20 rfl ?_
  refine z_iconst d_Lir_glasses_20 1 (by decide) 21 rfl ?_
  refine z_iconst d_Lir_glasses_21 5 (by decide) 22 rfl ?_
  refine z_invs d_Lir_glasses_22 25 rfl hm_Lir_outside lk_Lir_108 st_Lir_outside (r_Lir_outside_3 _ _ _ (show ¬ nI m < nI 1 from Int32.not_lt.mpr (nI_le hm1 (by omega))) (show ¬ nI 5 < nI m from Int32.not_lt.mpr (nI_le hm5 (by omega)))) rfl rfl (by decide) rfl rfl (Nat.le_of_ble_eq_true rfl) ?_
  refine z_istore d_Lir_glasses_25 27 rfl (by decide) rfl ?_
  refine z_iload d_Lir_glasses_27 rfl 29 rfl ?_
  refine z_if_eq d_Lir_glasses_29 39 32 (by decide) rfl (fun h1 => ?_) (fun hzz => absurd (by decide) hzz)
  refine z_iconst d_Lir_glasses_39 0 (by decide) 40 rfl ?_
  refine z_istore d_Lir_glasses_40 42 rfl (by decide) rfl ?_
  refine z_iconst d_Lir_glasses_42 0 (by decide) 43 rfl ?_
  refine z_istore d_Lir_glasses_43 45 rfl (by decide) rfl ?_
  refine z_Lw ([some (.ref 0), some (.int (nI l)), some (.int (nI m)), some (.ref (6 + 2 * l)), none, some (.int (glC pp r 0)), some (.int (nI 0)), none]) (by simp [zLw, List.set, zargs, nI_0, glC]) ?_
  refine zloop (fun i => Z X m_Lir_glasses 6 0 0 (some (.int (glC pp r m))) (wld (tk, tp, bt, (T, C, rc, PF, PS, g, pp, bn, sc), b, crf, nt) u tl) 45 [some (.ref 0), some (.int (nI l)), some (.int (nI m)), some (.ref (6 + 2 * l)), none, some (.int (glC pp r i)), some (.int (nI i)), none] [] (wld (tk, tp, bt, (T, C, rc, PF, PS, g, pp, bn, sc), b, crf, nt) u tl)) (m) ?_ ?_ 0 (Nat.zero_le _)
  · refine z_iload d_Lir_glasses_45 rfl 47 rfl ?_
    refine z_iload_n d_Lir_glasses_47 rfl 48 rfl ?_
    refine z_icmp_ge d_Lir_glasses_48 86 51 (by decide) rfl (fun h2 => ?_) (fun hzz => absurd (Int32.le_refl _) hzz)
    refine z_iload d_Lir_glasses_86 rfl 88 rfl ?_
    exact z_ireturn d_Lir_glasses_88 (rfl) (rfl)
  · intro i hi ih
    refine z_iload d_Lir_glasses_45 rfl 47 rfl ?_
    refine z_iload_n d_Lir_glasses_47 rfl 48 rfl ?_
    refine z_icmp_ge d_Lir_glasses_48 86 51 (by decide) rfl (fun hzz => absurd hzz (nI_ge hi (by omega))) (fun h3 => ?_)
    refine z_aload_n d_Lir_glasses_51 rfl 52 rfl ?_
    refine z_get d_Lir_glasses_52 55 rfl fl_Lir_19_10 wc_0 rfl ?_
    refine z_aload_n d_Lir_glasses_55 rfl 56 rfl ?_
    refine z_get d_Lir_glasses_56 59 rfl fl_Lir_219_4 (wc_law hl) rfl ?_
    refine z_iload d_Lir_glasses_59 rfl 61 rfl ?_
    rw [hr]
    refine z_invv d_Lir_glasses_61 64 rfl hm_Roo_fullestRing lk_Lir_252 im_Roo_fullestRing sl_Roo_Roo_fullestRing rfl wc_3 (r_Roo_fullestRing r hr10 _) rfl rfl (by decide) rfl rfl (Nat.le_of_ble_eq_true rfl) ?_
    refine z_istore d_Lir_glasses_64 66 rfl (by decide) rfl ?_
    refine z_iload d_Lir_glasses_66 rfl 68 rfl ?_
    refine z_if_lt d_Lir_glasses_68 80 71 (by decide) rfl (fun h4 => ?_) (fun h4 => ?_)
    · have e2 : glC pp r (i + 1) = glC pp r i := by simp only [glC]; rw [if_pos h4]
      refine z_iinc d_Lir_glasses_80 1 (by decide) 83 rfl rfl (by decide) rfl ?_
      refine z_goto d_Lir_glasses_83 45 (by decide) ?_
      exact z_Lg _ ih (by rw [e2]; simp [zLw, List.set, nI_succ])
    · have e2 : glC pp r (i + 1) = glC pp r i ||| 1 <<< ((frC pp (glC pp r i) r).1 &&& 31) := by simp only [glC]; rw [if_neg h4]
      refine z_iload d_Lir_glasses_71 rfl 73 rfl ?_
      refine z_iconst d_Lir_glasses_73 1 (by decide) 74 rfl ?_
      refine z_iload d_Lir_glasses_74 rfl 76 rfl ?_
      refine z_ishl d_Lir_glasses_76 77 rfl ?_
      refine z_ior d_Lir_glasses_77 78 rfl ?_
      refine z_istore d_Lir_glasses_78 80 rfl (by decide) rfl ?_
      refine z_iinc d_Lir_glasses_80 1 (by decide) 83 rfl rfl (by decide) rfl ?_
      refine z_goto d_Lir_glasses_83 45 (by decide) ?_
      exact z_Lg _ ih (by rw [e2]; simp [zLw, List.set, nI_succ])
