def rnC (x gg y : Int32) : Int32 := if x = -9 then -9 else if 100 + gg * y < 1 then -9 else 100 * x / (100 + gg * y)
def hdC (rt x gg y : Int32) : Int32 := if rt = 0 then x else rnC x gg y
def lb6 (f v : Nat → Int32) (x : Int32) : Int32 := x ||| (if f 6 &&& v 3 = 0 then 0 else 64)
def lb5 (f v : Nat → Int32) (x : Int32) : Int32 := lb6 f v (x ||| (if f 5 &&& (v 3 ^^^ -1) = 0 then 0 else 32))
def lb4 (f v : Nat → Int32) (x : Int32) : Int32 := lb5 f v (if v 2 = -9 then x else if mkd (f 4) (v 2) = true then x else x ||| 16)
def lb2 (f v : Nat → Int32) (e x : Int32) : Int32 := lb4 f v (if e = -9 then x else (x ||| (if f 2 ≤ e then 0 else 4)) ||| (if e ≤ f 3 then 0 else 8))
def lb0 (f v : Nat → Int32) (z e : Int32) : Int32 := lb2 f v e (if z = -9 then 0 else (0 ||| (if f 0 ≤ z then 0 else 1)) ||| (if z ≤ f 1 then 0 else 2))
set_option maxHeartbeats 400000 in
theorem r_Roo_rightNumber_0 {tk : Int32} {tp bt crf nt : Nat → Int32} {T PF PS : Nat → Option Nat} {C : Nat → Nat → Int32} {rc g pp bn sc : Nat → Int32} {b : zR} {u : zU} {tl : List zC} (v : Nat → Int32) (P : Nat) (hP : (wld (tk, tp, bt, (T, C, rc, PF, PS, g, pp, bn, sc), b, crf, nt) u tl)[P]? = some (tcell v)) : Ret 2 0 0 m_Roo_rightNumber [.ref 3, .ref P, .int 0] (wld (tk, tp, bt, (T, C, rc, PF, PS, g, pp, bn, sc), b, crf, nt) u tl) (some (.int (rnC (v 0) (g 0) (v 4)))) (wld (tk, tp, bt, (T, C, rc, PF, PS, g, pp, bn, sc), b, crf, nt) u tl) := by
  refine Ret.of (n := 1) (by decide) (rfl) rfl (fun X => ?_)
  refine z_aload_n d_Roo_rightNumber_0 rfl 1 rfl ?_
  refine z_iload_n d_Roo_rightNumber_1 rfl 2 rfl ?_
  refine z_invT d_Roo_rightNumber_2 5 rfl hm_Tel_lacks lk_Roo_94 sm_Tel_lacks im_Tel_lacks (selT_lacks (kci_mem _)) hP (r_Tel_lacks _ _ hP _) rfl rfl (by decide) rfl rfl (Nat.le_of_ble_eq_true rfl) ?_
  refine z_if_ne d_Roo_rightNumber_5 21 8 (by decide) rfl (fun h1 => ?_) (fun h1 => ?_)
  · have e1 : v 0 = -9 := of_decide_eq_true ((zb_ne _).mp h1)
    refine z_bipush d_Roo_rightNumber_21 (-9) (by decide) 23 rfl ?_
    exact z_ireturn d_Roo_rightNumber_23 (by unfold rnC; first | rw [if_neg e1, if_neg e2] | rw [if_neg e1, if_pos e2] | rw [if_pos e1]) (rfl)
  · have e1 : ¬ v 0 = -9 := of_decide_eq_false ((zb_eq _).mp h1)
    refine z_iload_n d_Roo_rightNumber_8 rfl 9 rfl ?_
    refine z_if_lt d_Roo_rightNumber_9 21 12 (by decide) rfl (fun hzz => absurd hzz (by decide)) (fun h2 => ?_)
    refine z_iload_n d_Roo_rightNumber_12 rfl 13 rfl ?_
    refine z_aload_n d_Roo_rightNumber_13 rfl 14 rfl ?_
    refine z_get d_Roo_rightNumber_14 17 rfl fl_Roo_30_6 wc_3 rfl ?_
    refine z_alenI d_Roo_rightNumber_17 18 rfl wc_20 2 (by decide) ?_
    refine z_icmp_lt d_Roo_rightNumber_18 24 21 (by decide) rfl (fun h3 => ?_) (fun hzz => absurd (by decide) hzz)
    refine z_bipush d_Roo_rightNumber_24 100 (by decide) 26 rfl ?_
    refine z_aload_n d_Roo_rightNumber_26 rfl 27 rfl ?_
    refine z_get d_Roo_rightNumber_27 30 rfl fl_Roo_30_6 wc_3 rfl ?_
    refine z_iload_n d_Roo_rightNumber_30 rfl 31 rfl ?_
    refine z_iaload d_Roo_rightNumber_31 (0) 32 rfl wc_20 (rfl) (by omega) (by decide) ?_
    refine z_aload_n d_Roo_rightNumber_32 rfl 33 rfl ?_
    refine z_get d_Roo_rightNumber_33 36 rfl (flT_Roo_98 (kci_mem _)) hP rfl ?_
    refine z_imul d_Roo_rightNumber_36 37 rfl ?_
    refine z_iadd d_Roo_rightNumber_37 38 rfl ?_
    refine z_istore_n d_Roo_rightNumber_38 39 rfl (by decide) rfl ?_
    refine z_iload_n d_Roo_rightNumber_39 rfl 40 rfl ?_
    refine z_iconst d_Roo_rightNumber_40 1 (by decide) 41 rfl ?_
    refine z_icmp_ge d_Roo_rightNumber_41 49 44 (by decide) rfl (fun h4 => ?_) (fun h4 => ?_)
    · have e2 : ¬ 100 + g 0 * v 4 < 1 := Int32.not_lt.mpr h4
      refine z_bipush d_Roo_rightNumber_49 100 (by decide) 51 rfl ?_
      refine z_aload_n d_Roo_rightNumber_51 rfl 52 rfl ?_
      refine z_iload_n d_Roo_rightNumber_52 rfl 53 rfl ?_
      refine z_invT d_Roo_rightNumber_53 56 rfl hm_Tel_numberTold lk_Roo_101 sm_Tel_numberTold im_Tel_numberTold (selT_numberTold (kci_mem _)) hP (r_Tel_numberTold _ _ hP _) rfl rfl (by decide) rfl rfl (Nat.le_of_ble_eq_true rfl) ?_
      refine z_top (.int (v 0)) rfl ?_
      refine z_imul d_Roo_rightNumber_56 57 rfl ?_
      refine z_iload_n d_Roo_rightNumber_57 rfl 58 rfl ?_
      refine z_idiv d_Roo_rightNumber_58 (fun q => by rw [q] at e2; exact absurd e2 (by decide)) 59 rfl ?_
      exact z_ireturn d_Roo_rightNumber_59 (by unfold rnC; first | rw [if_neg e1, if_neg e2] | rw [if_neg e1, if_pos e2] | rw [if_pos e1]) (rfl)
    · have e2 : 100 + g 0 * v 4 < 1 := Int32.not_le.mp h4
      refine z_bipush d_Roo_rightNumber_44 (-9) (by decide) 46 rfl ?_
      refine z_goto d_Roo_rightNumber_46 59 (by decide) ?_
      exact z_ireturn d_Roo_rightNumber_59 (by unfold rnC; first | rw [if_neg e1, if_neg e2] | rw [if_neg e1, if_pos e2] | rw [if_pos e1]) (rfl)
set_option maxHeartbeats 400000 in
theorem r_Roo_heldNumber_0 {tk : Int32} {tp bt crf nt : Nat → Int32} {T PF PS : Nat → Option Nat} {C : Nat → Nat → Int32} {rc g pp bn sc : Nat → Int32} {b : zR} {u : zU} {tl : List zC} (v : Nat → Int32) (P : Nat) (hP : (wld (tk, tp, bt, (T, C, rc, PF, PS, g, pp, bn, sc), b, crf, nt) u tl)[P]? = some (tcell v)) : Ret 3 0 0 m_Roo_heldNumber [.ref 3, .ref P, .int 0] (wld (tk, tp, bt, (T, C, rc, PF, PS, g, pp, bn, sc), b, crf, nt) u tl) (some (.int (hdC (sc 3) (v 0) (g 0) (v 4)))) (wld (tk, tp, bt, (T, C, rc, PF, PS, g, pp, bn, sc), b, crf, nt) u tl) := by
  refine Ret.of (n := 0) (by decide) (rfl) rfl (fun X => ?_)
  refine z_aload_n d_Roo_heldNumber_0 rfl 1 rfl ?_
  refine z_get d_Roo_heldNumber_1 4 rfl fl_Roo_86_6 wc_3 rfl ?_
  refine z_if_eq d_Roo_heldNumber_4 16 7 (by decide) rfl (fun h1 => ?_) (fun h1 => ?_)
  · refine z_aload_n d_Roo_heldNumber_16 rfl 17 rfl ?_
    refine z_iload_n d_Roo_heldNumber_17 rfl 18 rfl ?_
    refine z_invT d_Roo_heldNumber_18 21 rfl hm_Tel_numberTold lk_Roo_101 sm_Tel_numberTold im_Tel_numberTold (selT_numberTold (kci_mem _)) hP (r_Tel_numberTold _ _ hP _) rfl rfl (by decide) rfl rfl (Nat.le_of_ble_eq_true rfl) ?_
    exact z_ireturn d_Roo_heldNumber_21 (by unfold hdC; simp [*]) (rfl)
  · refine z_aload_n d_Roo_heldNumber_7 rfl 8 rfl ?_
    refine z_aload_n d_Roo_heldNumber_8 rfl 9 rfl ?_
    refine z_iload_n d_Roo_heldNumber_9 rfl 10 rfl ?_
    refine z_invv d_Roo_heldNumber_10 13 rfl hm_Roo_rightNumber lk_Roo_105 im_Roo_rightNumber sl_Roo_Roo_rightNumber rfl wc_3 (r_Roo_rightNumber_0 v P hP) rfl rfl (by decide) rfl rfl (Nat.le_of_ble_eq_true rfl) ?_
    refine z_goto d_Roo_heldNumber_13 21 (by decide) ?_
    exact z_ireturn d_Roo_heldNumber_21 (by unfold hdC; simp [*]) (rfl)
set_option maxHeartbeats 400000 in
theorem r_Roo_rightNumber_1 {tk : Int32} {tp bt crf nt : Nat → Int32} {T PF PS : Nat → Option Nat} {C : Nat → Nat → Int32} {rc g pp bn sc : Nat → Int32} {b : zR} {u : zU} {tl : List zC} (v : Nat → Int32) (P : Nat) (hP : (wld (tk, tp, bt, (T, C, rc, PF, PS, g, pp, bn, sc), b, crf, nt) u tl)[P]? = some (tcell v)) : Ret 2 0 0 m_Roo_rightNumber [.ref 3, .ref P, .int 1] (wld (tk, tp, bt, (T, C, rc, PF, PS, g, pp, bn, sc), b, crf, nt) u tl) (some (.int (rnC (v 1) (g 1) (v 4)))) (wld (tk, tp, bt, (T, C, rc, PF, PS, g, pp, bn, sc), b, crf, nt) u tl) := by
  refine Ret.of (n := 1) (by decide) (rfl) rfl (fun X => ?_)
  refine z_aload_n d_Roo_rightNumber_0 rfl 1 rfl ?_
  refine z_iload_n d_Roo_rightNumber_1 rfl 2 rfl ?_
  refine z_invT d_Roo_rightNumber_2 5 rfl hm_Tel_lacks lk_Roo_94 sm_Tel_lacks im_Tel_lacks (selT_lacks (kci_mem _)) hP (r_Tel_lacks _ _ hP _) rfl rfl (by decide) rfl rfl (Nat.le_of_ble_eq_true rfl) ?_
  refine z_if_ne d_Roo_rightNumber_5 21 8 (by decide) rfl (fun h1 => ?_) (fun h1 => ?_)
  · have e1 : v 1 = -9 := of_decide_eq_true ((zb_ne _).mp h1)
    refine z_bipush d_Roo_rightNumber_21 (-9) (by decide) 23 rfl ?_
    exact z_ireturn d_Roo_rightNumber_23 (by unfold rnC; first | rw [if_neg e1, if_neg e2] | rw [if_neg e1, if_pos e2] | rw [if_pos e1]) (rfl)
  · have e1 : ¬ v 1 = -9 := of_decide_eq_false ((zb_eq _).mp h1)
    refine z_iload_n d_Roo_rightNumber_8 rfl 9 rfl ?_
    refine z_if_lt d_Roo_rightNumber_9 21 12 (by decide) rfl (fun hzz => absurd hzz (by decide)) (fun h2 => ?_)
    refine z_iload_n d_Roo_rightNumber_12 rfl 13 rfl ?_
    refine z_aload_n d_Roo_rightNumber_13 rfl 14 rfl ?_
    refine z_get d_Roo_rightNumber_14 17 rfl fl_Roo_30_6 wc_3 rfl ?_
    refine z_alenI d_Roo_rightNumber_17 18 rfl wc_20 2 (by decide) ?_
    refine z_icmp_lt d_Roo_rightNumber_18 24 21 (by decide) rfl (fun h3 => ?_) (fun hzz => absurd (by decide) hzz)
    refine z_bipush d_Roo_rightNumber_24 100 (by decide) 26 rfl ?_
    refine z_aload_n d_Roo_rightNumber_26 rfl 27 rfl ?_
    refine z_get d_Roo_rightNumber_27 30 rfl fl_Roo_30_6 wc_3 rfl ?_
    refine z_iload_n d_Roo_rightNumber_30 rfl 31 rfl ?_
    refine z_iaload d_Roo_rightNumber_31 (1) 32 rfl wc_20 (rfl) (by omega) (by decide) ?_
    refine z_aload_n d_Roo_rightNumber_32 rfl 33 rfl ?_
    refine z_get d_Roo_rightNumber_33 36 rfl (flT_Roo_98 (kci_mem _)) hP rfl ?_
    refine z_imul d_Roo_rightNumber_36 37 rfl ?_
    refine z_iadd d_Roo_rightNumber_37 38 rfl ?_
    refine z_istore_n d_Roo_rightNumber_38 39 rfl (by decide) rfl ?_
    refine z_iload_n d_Roo_rightNumber_39 rfl 40 rfl ?_
    refine z_iconst d_Roo_rightNumber_40 1 (by decide) 41 rfl ?_
    refine z_icmp_ge d_Roo_rightNumber_41 49 44 (by decide) rfl (fun h4 => ?_) (fun h4 => ?_)
    · have e2 : ¬ 100 + g 1 * v 4 < 1 := Int32.not_lt.mpr h4
      refine z_bipush d_Roo_rightNumber_49 100 (by decide) 51 rfl ?_
      refine z_aload_n d_Roo_rightNumber_51 rfl 52 rfl ?_
      refine z_iload_n d_Roo_rightNumber_52 rfl 53 rfl ?_
      refine z_invT d_Roo_rightNumber_53 56 rfl hm_Tel_numberTold lk_Roo_101 sm_Tel_numberTold im_Tel_numberTold (selT_numberTold (kci_mem _)) hP (r_Tel_numberTold _ _ hP _) rfl rfl (by decide) rfl rfl (Nat.le_of_ble_eq_true rfl) ?_
      refine z_top (.int (v 1)) rfl ?_
      refine z_imul d_Roo_rightNumber_56 57 rfl ?_
      refine z_iload_n d_Roo_rightNumber_57 rfl 58 rfl ?_
      refine z_idiv d_Roo_rightNumber_58 (fun q => by rw [q] at e2; exact absurd e2 (by decide)) 59 rfl ?_
      exact z_ireturn d_Roo_rightNumber_59 (by unfold rnC; first | rw [if_neg e1, if_neg e2] | rw [if_neg e1, if_pos e2] | rw [if_pos e1]) (rfl)
    · have e2 : 100 + g 1 * v 4 < 1 := Int32.not_le.mp h4
      refine z_bipush d_Roo_rightNumber_44 (-9) (by decide) 46 rfl ?_
      refine z_goto d_Roo_rightNumber_46 59 (by decide) ?_
      exact z_ireturn d_Roo_rightNumber_59 (by unfold rnC; first | rw [if_neg e1, if_neg e2] | rw [if_neg e1, if_pos e2] | rw [if_pos e1]) (rfl)
set_option maxHeartbeats 400000 in
theorem r_Roo_heldNumber_1 {tk : Int32} {tp bt crf nt : Nat → Int32} {T PF PS : Nat → Option Nat} {C : Nat → Nat → Int32} {rc g pp bn sc : Nat → Int32} {b : zR} {u : zU} {tl : List zC} (v : Nat → Int32) (P : Nat) (hP : (wld (tk, tp, bt, (T, C, rc, PF, PS, g, pp, bn, sc), b, crf, nt) u tl)[P]? = some (tcell v)) : Ret 3 0 0 m_Roo_heldNumber [.ref 3, .ref P, .int 1] (wld (tk, tp, bt, (T, C, rc, PF, PS, g, pp, bn, sc), b, crf, nt) u tl) (some (.int (hdC (sc 3) (v 1) (g 1) (v 4)))) (wld (tk, tp, bt, (T, C, rc, PF, PS, g, pp, bn, sc), b, crf, nt) u tl) := by
  refine Ret.of (n := 0) (by decide) (rfl) rfl (fun X => ?_)
  refine z_aload_n d_Roo_heldNumber_0 rfl 1 rfl ?_
  refine z_get d_Roo_heldNumber_1 4 rfl fl_Roo_86_6 wc_3 rfl ?_
  refine z_if_eq d_Roo_heldNumber_4 16 7 (by decide) rfl (fun h1 => ?_) (fun h1 => ?_)
  · refine z_aload_n d_Roo_heldNumber_16 rfl 17 rfl ?_
    refine z_iload_n d_Roo_heldNumber_17 rfl 18 rfl ?_
    refine z_invT d_Roo_heldNumber_18 21 rfl hm_Tel_numberTold lk_Roo_101 sm_Tel_numberTold im_Tel_numberTold (selT_numberTold (kci_mem _)) hP (r_Tel_numberTold _ _ hP _) rfl rfl (by decide) rfl rfl (Nat.le_of_ble_eq_true rfl) ?_
    exact z_ireturn d_Roo_heldNumber_21 (by unfold hdC; simp [*]) (rfl)
  · refine z_aload_n d_Roo_heldNumber_7 rfl 8 rfl ?_
    refine z_aload_n d_Roo_heldNumber_8 rfl 9 rfl ?_
    refine z_iload_n d_Roo_heldNumber_9 rfl 10 rfl ?_
    refine z_invv d_Roo_heldNumber_10 13 rfl hm_Roo_rightNumber lk_Roo_105 im_Roo_rightNumber sl_Roo_Roo_rightNumber rfl wc_3 (r_Roo_rightNumber_1 v P hP) rfl rfl (by decide) rfl rfl (Nat.le_of_ble_eq_true rfl) ?_
    refine z_goto d_Roo_heldNumber_13 21 (by decide) ?_
    exact z_ireturn d_Roo_heldNumber_21 (by unfold hdC; simp [*]) (rfl)
theorem s_Law_155 {X : zS} {hp : List zC} {o c P : Nat} {q z e : Int32} {f v : Nat → Int32} (ho : hp[o]? = some (.inr (.inr (4, [.ref c, .int q])))) (hc : hp[c]? = some (.inl (7, f))) (hP : hp[P]? = some (tcell v)) (x : Int32) : Z X m_Law_brokenBy 1 0 0 (some (.int (lb6 f v x))) (hp) 155 [some (.ref o), some (.ref P), some (.int z), some (.int e), some (.int x)] [] (hp) := by
  refine z_iload d_Law_brokenBy_155 rfl 157 rfl ?_
  refine z_aload_n d_Law_brokenBy_157 rfl 158 rfl ?_
  refine z_get d_Law_brokenBy_158 161 rfl fl_Law_9_4 ho rfl ?_
  refine z_bipush d_Law_brokenBy_161 6 (by decide) 163 rfl ?_
  refine z_iaload d_Law_brokenBy_163 (6) 164 rfl hc (rfl) (by omega) (by decide) ?_
  refine z_aload_n d_Law_brokenBy_164 rfl 165 rfl ?_
  refine z_get d_Law_brokenBy_165 168 rfl (flT_Law_32 (kci_mem _)) hP rfl ?_
  refine z_iand d_Law_brokenBy_168 169 rfl ?_
  refine z_if_eq d_Law_brokenBy_169 177 172 (by decide) rfl (fun h1 => ?_) (fun h1 => ?_)
  · refine z_iconst d_Law_brokenBy_177 0 (by decide) 178 rfl ?_
    refine z_ior d_Law_brokenBy_178 179 rfl ?_
    refine z_istore d_Law_brokenBy_179 181 rfl (by decide) rfl ?_
    refine z_iload d_Law_brokenBy_181 rfl 183 rfl ?_
    exact z_ireturn d_Law_brokenBy_183 (by simp [lb6, *]) (rfl)
  · refine z_bipush d_Law_brokenBy_172 64 (by decide) 174 rfl ?_
    refine z_goto d_Law_brokenBy_174 178 (by decide) ?_
    refine z_ior d_Law_brokenBy_178 179 rfl ?_
    refine z_istore d_Law_brokenBy_179 181 rfl (by decide) rfl ?_
    refine z_iload d_Law_brokenBy_181 rfl 183 rfl ?_
    exact z_ireturn d_Law_brokenBy_183 (by simp [lb6, *]) (rfl)
theorem s_Law_128 {X : zS} {hp : List zC} {o c P : Nat} {q z e : Int32} {f v : Nat → Int32} (ho : hp[o]? = some (.inr (.inr (4, [.ref c, .int q])))) (hc : hp[c]? = some (.inl (7, f))) (hP : hp[P]? = some (tcell v)) (x : Int32) : Z X m_Law_brokenBy 1 0 0 (some (.int (lb5 f v x))) (hp) 128 [some (.ref o), some (.ref P), some (.int z), some (.int e), some (.int x)] [] (hp) := by
  refine z_iload d_Law_brokenBy_128 rfl 130 rfl ?_
  refine z_aload_n d_Law_brokenBy_130 rfl 131 rfl ?_
  refine z_get d_Law_brokenBy_131 134 rfl fl_Law_9_4 ho rfl ?_
  refine z_iconst d_Law_brokenBy_134 5 (by decide) 135 rfl ?_
  refine z_iaload d_Law_brokenBy_135 (5) 136 rfl hc (rfl) (by omega) (by decide) ?_
  refine z_aload_n d_Law_brokenBy_136 rfl 137 rfl ?_
  refine z_get d_Law_brokenBy_137 140 rfl (flT_Law_32 (kci_mem _)) hP rfl ?_
  refine z_iconst d_Law_brokenBy_140 (-1) (by decide) 141 rfl ?_
  refine z_ixor d_Law_brokenBy_141 142 rfl ?_
  refine z_iand d_Law_brokenBy_142 143 rfl ?_
  refine z_if_eq d_Law_brokenBy_143 151 146 (by decide) rfl (fun h1 => ?_) (fun h1 => ?_)
  · refine z_iconst d_Law_brokenBy_151 0 (by decide) 152 rfl ?_
    refine z_ior d_Law_brokenBy_152 153 rfl ?_
    refine z_istore d_Law_brokenBy_153 155 rfl (by decide) rfl ?_
    unfold lb5
    first | rw [if_pos (by assumption)] | rw [if_neg (by assumption)]
    exact s_Law_155 ho hc hP _
  · refine z_bipush d_Law_brokenBy_146 32 (by decide) 148 rfl ?_
    refine z_goto d_Law_brokenBy_148 152 (by decide) ?_
    refine z_ior d_Law_brokenBy_152 153 rfl ?_
    refine z_istore d_Law_brokenBy_153 155 rfl (by decide) rfl ?_
    unfold lb5
    first | rw [if_pos (by assumption)] | rw [if_neg (by assumption)]
    exact s_Law_155 ho hc hP _
theorem s_Law_96 {X : zS} {hp : List zC} {o c P : Nat} {q z e : Int32} {f v : Nat → Int32} (ho : hp[o]? = some (.inr (.inr (4, [.ref c, .int q])))) (hc : hp[c]? = some (.inl (7, f))) (hP : hp[P]? = some (tcell v)) (x : Int32) : Z X m_Law_brokenBy 1 0 0 (some (.int (lb4 f v x))) (hp) 96 [some (.ref o), some (.ref P), some (.int z), some (.int e), some (.int x)] [] (hp) := by
  refine z_aload_n d_Law_brokenBy_96 rfl 97 rfl ?_
  refine z_get d_Law_brokenBy_97 100 rfl (flT_Law_23 (kci_mem _)) hP rfl ?_
  refine z_bipush d_Law_brokenBy_100 (-9) (by decide) 102 rfl ?_
  refine z_icmp_eq d_Law_brokenBy_102 128 105 (by decide) rfl (fun h1 => ?_) (fun h1 => ?_)
  · unfold lb4
    first | rw [if_pos (by assumption)] | (rw [if_neg (by assumption)]; first | rw [if_pos e5] | rw [if_neg e5])
    exact s_Law_128 ho hc hP _
  · refine z_aload_n d_Law_brokenBy_105 rfl 106 rfl ?_
    refine z_get d_Law_brokenBy_106 109 rfl fl_Law_9_4 ho rfl ?_
    refine z_iconst d_Law_brokenBy_109 4 (by decide) 110 rfl ?_
    refine z_iaload d_Law_brokenBy_110 (4) 111 rfl hc (rfl) (by omega) (by decide) ?_
    refine z_aload_n d_Law_brokenBy_111 rfl 112 rfl ?_
    refine z_get d_Law_brokenBy_112 115 rfl (flT_Law_23 (kci_mem _)) hP rfl ?_
    refine z_invSN d_Law_brokenBy_115 118 rfl hm_Lir_hasBit (by decide) st_Lir_hasBit (r_Lir_hasBit _ _) rfl rfl (by decide) rfl rfl (Nat.le_of_ble_eq_true rfl) ?_
    refine z_if_ne d_Law_brokenBy_118 128 121 (by decide) rfl (fun h2 => ?_) (fun h2 => ?_)
    · have e5 : mkd (f 4) (v 2) = true := (zb_ne _).mp h2
      unfold lb4
      first | rw [if_pos (by assumption)] | (rw [if_neg (by assumption)]; first | rw [if_pos e5] | rw [if_neg e5])
      exact s_Law_128 ho hc hP _
    · have e5 : ¬ mkd (f 4) (v 2) = true := by rw [(zb_eq _).mp h2]; decide
      refine z_iload d_Law_brokenBy_121 rfl 123 rfl ?_
      refine z_bipush d_Law_brokenBy_123 16 (by decide) 125 rfl ?_
      refine z_ior d_Law_brokenBy_125 126 rfl ?_
      refine z_istore d_Law_brokenBy_126 128 rfl (by decide) rfl ?_
      unfold lb4
      first | rw [if_pos (by assumption)] | (rw [if_neg (by assumption)]; first | rw [if_pos e5] | rw [if_neg e5])
      exact s_Law_128 ho hc hP _
theorem s_Law_49 {X : zS} {hp : List zC} {o c P : Nat} {q z e : Int32} {f v : Nat → Int32} (ho : hp[o]? = some (.inr (.inr (4, [.ref c, .int q])))) (hc : hp[c]? = some (.inl (7, f))) (hP : hp[P]? = some (tcell v)) (x : Int32) : Z X m_Law_brokenBy 1 0 0 (some (.int (lb2 f v e x))) (hp) 49 [some (.ref o), some (.ref P), some (.int z), some (.int e), some (.int x)] [] (hp) := by
  refine z_iload_n d_Law_brokenBy_49 rfl 50 rfl ?_
  refine z_bipush d_Law_brokenBy_50 (-9) (by decide) 52 rfl ?_
  refine z_icmp_eq d_Law_brokenBy_52 96 55 (by decide) rfl (fun h1 => ?_) (fun h1 => ?_)
  · unfold lb2
    first | rw [if_pos (by assumption)] | rw [if_neg (by assumption)]
    try (first | rw [if_pos e3] | rw [if_neg e3])
    try (first | rw [if_pos e4] | rw [if_neg e4])
    exact s_Law_96 ho hc hP _
  · refine z_iload d_Law_brokenBy_55 rfl 57 rfl ?_
    refine z_iload_n d_Law_brokenBy_57 rfl 58 rfl ?_
    refine z_aload_n d_Law_brokenBy_58 rfl 59 rfl ?_
    refine z_get d_Law_brokenBy_59 62 rfl fl_Law_9_4 ho rfl ?_
    refine z_iconst d_Law_brokenBy_62 2 (by decide) 63 rfl ?_
    refine z_iaload d_Law_brokenBy_63 (2) 64 rfl hc (rfl) (by omega) (by decide) ?_
    refine z_icmp_ge d_Law_brokenBy_64 71 67 (by decide) rfl (fun h2 => ?_) (fun h2 => ?_)
    · have e3 : f 2 ≤ e := h2
      refine z_iconst d_Law_brokenBy_71 0 (by decide) 72 rfl ?_
      refine z_ior d_Law_brokenBy_72 73 rfl ?_
      refine z_istore d_Law_brokenBy_73 75 rfl (by decide) rfl ?_
      refine z_iload d_Law_brokenBy_75 rfl 77 rfl ?_
      refine z_iload_n d_Law_brokenBy_77 rfl 78 rfl ?_
      refine z_aload_n d_Law_brokenBy_78 rfl 79 rfl ?_
      refine z_get d_Law_brokenBy_79 82 rfl fl_Law_9_4 ho rfl ?_
      refine z_iconst d_Law_brokenBy_82 3 (by decide) 83 rfl ?_
      refine z_iaload d_Law_brokenBy_83 (3) 84 rfl hc (rfl) (by omega) (by decide) ?_
      refine z_icmp_le d_Law_brokenBy_84 92 87 (by decide) rfl (fun h3 => ?_) (fun h3 => ?_)
      · have e4 : e ≤ f 3 := h3
        refine z_iconst d_Law_brokenBy_92 0 (by decide) 93 rfl ?_
        refine z_ior d_Law_brokenBy_93 94 rfl ?_
        refine z_istore d_Law_brokenBy_94 96 rfl (by decide) rfl ?_
        unfold lb2
        first | rw [if_pos (by assumption)] | rw [if_neg (by assumption)]
        try (first | rw [if_pos e3] | rw [if_neg e3])
        try (first | rw [if_pos e4] | rw [if_neg e4])
        exact s_Law_96 ho hc hP _
      · have e4 : ¬ e ≤ f 3 := h3
        refine z_bipush d_Law_brokenBy_87 8 (by decide) 89 rfl ?_
        refine z_goto d_Law_brokenBy_89 93 (by decide) ?_
        refine z_ior d_Law_brokenBy_93 94 rfl ?_
        refine z_istore d_Law_brokenBy_94 96 rfl (by decide) rfl ?_
        unfold lb2
        first | rw [if_pos (by assumption)] | rw [if_neg (by assumption)]
        try (first | rw [if_pos e3] | rw [if_neg e3])
        try (first | rw [if_pos e4] | rw [if_neg e4])
        exact s_Law_96 ho hc hP _
    · have e3 : ¬ f 2 ≤ e := h2
      refine z_iconst d_Law_brokenBy_67 4 (by decide) 68 rfl ?_
      refine z_goto d_Law_brokenBy_68 72 (by decide) ?_
      refine z_ior d_Law_brokenBy_72 73 rfl ?_
      refine z_istore d_Law_brokenBy_73 75 rfl (by decide) rfl ?_
      refine z_iload d_Law_brokenBy_75 rfl 77 rfl ?_
      refine z_iload_n d_Law_brokenBy_77 rfl 78 rfl ?_
      refine z_aload_n d_Law_brokenBy_78 rfl 79 rfl ?_
      refine z_get d_Law_brokenBy_79 82 rfl fl_Law_9_4 ho rfl ?_
      refine z_iconst d_Law_brokenBy_82 3 (by decide) 83 rfl ?_
      refine z_iaload d_Law_brokenBy_83 (3) 84 rfl hc (rfl) (by omega) (by decide) ?_
      refine z_icmp_le d_Law_brokenBy_84 92 87 (by decide) rfl (fun h4 => ?_) (fun h4 => ?_)
      · have e4 : e ≤ f 3 := h4
        refine z_iconst d_Law_brokenBy_92 0 (by decide) 93 rfl ?_
        refine z_ior d_Law_brokenBy_93 94 rfl ?_
        refine z_istore d_Law_brokenBy_94 96 rfl (by decide) rfl ?_
        unfold lb2
        first | rw [if_pos (by assumption)] | rw [if_neg (by assumption)]
        try (first | rw [if_pos e3] | rw [if_neg e3])
        try (first | rw [if_pos e4] | rw [if_neg e4])
        exact s_Law_96 ho hc hP _
      · have e4 : ¬ e ≤ f 3 := h4
        refine z_bipush d_Law_brokenBy_87 8 (by decide) 89 rfl ?_
        refine z_goto d_Law_brokenBy_89 93 (by decide) ?_
        refine z_ior d_Law_brokenBy_93 94 rfl ?_
        refine z_istore d_Law_brokenBy_94 96 rfl (by decide) rfl ?_
        unfold lb2
        first | rw [if_pos (by assumption)] | rw [if_neg (by assumption)]
        try (first | rw [if_pos e3] | rw [if_neg e3])
        try (first | rw [if_pos e4] | rw [if_neg e4])
        exact s_Law_96 ho hc hP _
set_option maxHeartbeats 400000 in
theorem r_Law_brokenBy {hp : List zC} {o c P : Nat} {q : Int32} (z e : Int32) {f v : Nat → Int32} (ho : hp[o]? = some (.inr (.inr (4, [.ref c, .int q])))) (hc : hp[c]? = some (.inl (7, f))) (hP : hp[P]? = some (tcell v)) : Ret 1 0 0 m_Law_brokenBy [.ref o, .ref P, .int z, .int e] (hp) (some (.int (lb0 f v z e))) (hp) := by
  refine Ret.of (n := 1) (by decide) (rfl) rfl (fun X => ?_)
  refine z_iconst d_Law_brokenBy_0 0 (by decide) 1 rfl ?_
  refine z_istore d_Law_brokenBy_1 3 rfl (by decide) rfl ?_
  refine z_iload_n d_Law_brokenBy_3 rfl 4 rfl ?_
  refine z_bipush d_Law_brokenBy_4 (-9) (by decide) 6 rfl ?_
  refine z_icmp_eq d_Law_brokenBy_6 49 9 (by decide) rfl (fun h1 => ?_) (fun h1 => ?_)
  · unfold lb0
    first | rw [if_pos (by assumption)] | rw [if_neg (by assumption)]
    try (first | rw [if_pos e3] | rw [if_neg e3])
    try (first | rw [if_pos e4] | rw [if_neg e4])
    exact s_Law_49 ho hc hP _
  · refine z_iload d_Law_brokenBy_9 rfl 11 rfl ?_
    refine z_iload_n d_Law_brokenBy_11 rfl 12 rfl ?_
    refine z_aload_n d_Law_brokenBy_12 rfl 13 rfl ?_
    refine z_get d_Law_brokenBy_13 16 rfl fl_Law_9_4 ho rfl ?_
    refine z_iconst d_Law_brokenBy_16 0 (by decide) 17 rfl ?_
    refine z_iaload d_Law_brokenBy_17 (0) 18 rfl hc (rfl) (by omega) (by decide) ?_
    refine z_icmp_ge d_Law_brokenBy_18 25 21 (by decide) rfl (fun h2 => ?_) (fun h2 => ?_)
    · have e3 : f 0 ≤ z := h2
      refine z_iconst d_Law_brokenBy_25 0 (by decide) 26 rfl ?_
      refine z_ior d_Law_brokenBy_26 27 rfl ?_
      refine z_istore d_Law_brokenBy_27 29 rfl (by decide) rfl ?_
      refine z_iload d_Law_brokenBy_29 rfl 31 rfl ?_
      refine z_iload_n d_Law_brokenBy_31 rfl 32 rfl ?_
      refine z_aload_n d_Law_brokenBy_32 rfl 33 rfl ?_
      refine z_get d_Law_brokenBy_33 36 rfl fl_Law_9_4 ho rfl ?_
      refine z_iconst d_Law_brokenBy_36 1 (by decide) 37 rfl ?_
      refine z_iaload d_Law_brokenBy_37 (1) 38 rfl hc (rfl) (by omega) (by decide) ?_
      refine z_icmp_le d_Law_brokenBy_38 45 41 (by decide) rfl (fun h3 => ?_) (fun h3 => ?_)
      · have e4 : z ≤ f 1 := h3
        refine z_iconst d_Law_brokenBy_45 0 (by decide) 46 rfl ?_
        refine z_ior d_Law_brokenBy_46 47 rfl ?_
        refine z_istore d_Law_brokenBy_47 49 rfl (by decide) rfl ?_
        unfold lb0
        first | rw [if_pos (by assumption)] | rw [if_neg (by assumption)]
        try (first | rw [if_pos e3] | rw [if_neg e3])
        try (first | rw [if_pos e4] | rw [if_neg e4])
        exact s_Law_49 ho hc hP _
      · have e4 : ¬ z ≤ f 1 := h3
        refine z_iconst d_Law_brokenBy_41 2 (by decide) 42 rfl ?_
        refine z_goto d_Law_brokenBy_42 46 (by decide) ?_
        refine z_ior d_Law_brokenBy_46 47 rfl ?_
        refine z_istore d_Law_brokenBy_47 49 rfl (by decide) rfl ?_
        unfold lb0
        first | rw [if_pos (by assumption)] | rw [if_neg (by assumption)]
        try (first | rw [if_pos e3] | rw [if_neg e3])
        try (first | rw [if_pos e4] | rw [if_neg e4])
        exact s_Law_49 ho hc hP _
    · have e3 : ¬ f 0 ≤ z := h2
      refine z_iconst d_Law_brokenBy_21 1 (by decide) 22 rfl ?_
      refine z_goto d_Law_brokenBy_22 26 (by decide) ?_
      refine z_ior d_Law_brokenBy_26 27 rfl ?_
      refine z_istore d_Law_brokenBy_27 29 rfl (by decide) rfl ?_
      refine z_iload d_Law_brokenBy_29 rfl 31 rfl ?_
      refine z_iload_n d_Law_brokenBy_31 rfl 32 rfl ?_
      refine z_aload_n d_Law_brokenBy_32 rfl 33 rfl ?_
      refine z_get d_Law_brokenBy_33 36 rfl fl_Law_9_4 ho rfl ?_
      refine z_iconst d_Law_brokenBy_36 1 (by decide) 37 rfl ?_
      refine z_iaload d_Law_brokenBy_37 (1) 38 rfl hc (rfl) (by omega) (by decide) ?_
      refine z_icmp_le d_Law_brokenBy_38 45 41 (by decide) rfl (fun h4 => ?_) (fun h4 => ?_)
      · have e4 : z ≤ f 1 := h4
        refine z_iconst d_Law_brokenBy_45 0 (by decide) 46 rfl ?_
        refine z_ior d_Law_brokenBy_46 47 rfl ?_
        refine z_istore d_Law_brokenBy_47 49 rfl (by decide) rfl ?_
        unfold lb0
        first | rw [if_pos (by assumption)] | rw [if_neg (by assumption)]
        try (first | rw [if_pos e3] | rw [if_neg e3])
        try (first | rw [if_pos e4] | rw [if_neg e4])
        exact s_Law_49 ho hc hP _
      · have e4 : ¬ z ≤ f 1 := h4
        refine z_iconst d_Law_brokenBy_41 2 (by decide) 42 rfl ?_
        refine z_goto d_Law_brokenBy_42 46 (by decide) ?_
        refine z_ior d_Law_brokenBy_46 47 rfl ?_
        refine z_istore d_Law_brokenBy_47 49 rfl (by decide) rfl ?_
        unfold lb0
        first | rw [if_pos (by assumption)] | rw [if_neg (by assumption)]
        try (first | rw [if_pos e3] | rw [if_neg e3])
        try (first | rw [if_pos e4] | rw [if_neg e4])
        exact s_Law_49 ho hc hP _
set_option maxHeartbeats 400000 in
theorem r_Roo_brokenBy {tk : Int32} {tp bt crf nt : Nat → Int32} {T PF PS : Nat → Option Nat} {C : Nat → Nat → Int32} {rc g pp bn sc : Nat → Int32} {b : zR} {u : zU} {tl : List zC} (v : Nat → Int32) (P : Nat) (hP : (wld (tk, tp, bt, (T, C, rc, PF, PS, g, pp, bn, sc), b, crf, nt) u tl)[P]? = some (tcell v)) (l : Nat) (hl : l < 6) : Ret 4 0 0 m_Roo_brokenBy [.ref 3, .ref P, .ref (6 + 2 * l)] (wld (tk, tp, bt, (T, C, rc, PF, PS, g, pp, bn, sc), b, crf, nt) u tl) (some (.int (lb0 (C l) v (hdC (sc 3) (v 0) (g 0) (v 4)) (hdC (sc 3) (v 1) (g 1) (v 4))))) (wld (tk, tp, bt, (T, C, rc, PF, PS, g, pp, bn, sc), b, crf, nt) u tl) := by
  refine Ret.of (n := 0) (by decide) (rfl) rfl (fun X => ?_)
  refine z_aload_n d_Roo_brokenBy_0 rfl 1 rfl ?_
  refine z_aload_n d_Roo_brokenBy_1 rfl 2 rfl ?_
  refine z_aload_n d_Roo_brokenBy_2 rfl 3 rfl ?_
  refine z_aload_n d_Roo_brokenBy_3 rfl 4 rfl ?_
  refine z_iconst d_Roo_brokenBy_4 0 (by decide) 5 rfl ?_
  refine z_invv d_Roo_brokenBy_5 8 rfl hm_Roo_heldNumber lk_Roo_109 im_Roo_heldNumber sl_Roo_Roo_heldNumber rfl wc_3 (r_Roo_heldNumber_0 _ _ hP) rfl rfl (by decide) rfl rfl (Nat.le_of_ble_eq_true rfl) ?_
  refine z_aload_n d_Roo_brokenBy_8 rfl 9 rfl ?_
  refine z_aload_n d_Roo_brokenBy_9 rfl 10 rfl ?_
  refine z_iconst d_Roo_brokenBy_10 1 (by decide) 11 rfl ?_
  refine z_invv d_Roo_brokenBy_11 14 rfl hm_Roo_heldNumber lk_Roo_109 im_Roo_heldNumber sl_Roo_Roo_heldNumber rfl wc_3 (r_Roo_heldNumber_1 _ _ hP) rfl rfl (by decide) rfl rfl (Nat.le_of_ble_eq_true rfl) ?_
  refine z_invv d_Roo_brokenBy_14 17 rfl hm_Law_brokenBy lk_Roo_112 im_Law_brokenBy sl_Law_Law_brokenBy rfl (wc_law hl) (r_Law_brokenBy _ _ (wc_law hl) (wc_cond hl) hP) rfl rfl (by decide) rfl rfl (Nat.le_of_ble_eq_true rfl) ?_
  exact z_ireturn d_Roo_brokenBy_17 (rfl) (rfl)
def lfC (C : Nat → Nat → Int32) (v : Nat → Int32) (z e : Int32) : Nat → Int32
  | 0 => 0
  | i + 1 => if lb0 (C i) v z e = 0 then lfC C v z e i ||| 1 <<< (nI i &&& 31) else lfC C v z e i
set_option maxHeartbeats 400000 in
theorem r_Roo_lawsFitted {tk : Int32} {tp bt crf nt : Nat → Int32} {T PF PS : Nat → Option Nat} {C : Nat → Nat → Int32} {rc g pp bn sc : Nat → Int32} {b : zR} {u : zU} {tl : List zC} (v : Nat → Int32) (P : Nat) (hP : (wld (tk, tp, bt, (T, C, rc, PF, PS, g, pp, bn, sc), b, crf, nt) u tl)[P]? = some (tcell v)) : Ret 4 0 0 m_Roo_lawsFitted [.ref 3, .ref P] (wld (tk, tp, bt, (T, C, rc, PF, PS, g, pp, bn, sc), b, crf, nt) u tl) (some (.int (lfC C v (hdC (sc 3) (v 0) (g 0) (v 4)) (hdC (sc 3) (v 1) (g 1) (v 4)) 6))) (wld (tk, tp, bt, (T, C, rc, PF, PS, g, pp, bn, sc), b, crf, nt) u tl) := by
  refine Ret.of (n := 5) (by decide) (rfl) rfl (fun X => ?_)
  refine z_aload_n d_Roo_lawsFitted_0 rfl 1 rfl ?_
  refine z_aload_n d_Roo_lawsFitted_1 rfl 2 rfl ?_
  refine z_iconst d_Roo_lawsFitted_2 0 (by decide) 3 rfl ?_
  refine z_invv d_Roo_lawsFitted_3 6 rfl hm_Roo_heldNumber lk_Roo_109 im_Roo_heldNumber sl_Roo_Roo_heldNumber rfl wc_3 (r_Roo_heldNumber_0 _ _ hP) rfl rfl (by decide) rfl rfl (Nat.le_of_ble_eq_true rfl) ?_
  refine z_istore_n d_Roo_lawsFitted_6 7 rfl (by decide) rfl ?_
  refine z_aload_n d_Roo_lawsFitted_7 rfl 8 rfl ?_
  refine z_aload_n d_Roo_lawsFitted_8 rfl 9 rfl ?_
  refine z_iconst d_Roo_lawsFitted_9 1 (by decide) 10 rfl ?_
  refine z_invv d_Roo_lawsFitted_10 13 rfl hm_Roo_heldNumber lk_Roo_109 im_Roo_heldNumber sl_Roo_Roo_heldNumber rfl wc_3 (r_Roo_heldNumber_1 _ _ hP) rfl rfl (by decide) rfl rfl (Nat.le_of_ble_eq_true rfl) ?_
  refine z_istore_n d_Roo_lawsFitted_13 14 rfl (by decide) rfl ?_
  refine z_iconst d_Roo_lawsFitted_14 0 (by decide) 15 rfl ?_
  refine z_istore d_Roo_lawsFitted_15 17 rfl (by decide) rfl ?_
  refine z_iconst d_Roo_lawsFitted_17 0 (by decide) 18 rfl ?_
  refine z_istore d_Roo_lawsFitted_18 20 rfl (by decide) rfl ?_
  refine zloop (fun i => Z X m_Roo_lawsFitted 4 0 0 (some (.int (lfC C v (hdC (sc 3) (v 0) (g 0) (v 4)) (hdC (sc 3) (v 1) (g 1) (v 4)) 6))) (wld (tk, tp, bt, (T, C, rc, PF, PS, g, pp, bn, sc), b, crf, nt) u tl) 20 [some (.ref 3), some (.ref P), some (.int (hdC (sc 3) (v 0) (g 0) (v 4))), some (.int (hdC (sc 3) (v 1) (g 1) (v 4))), some (.int (lfC C v (hdC (sc 3) (v 0) (g 0) (v 4)) (hdC (sc 3) (v 1) (g 1) (v 4)) i)), some (.int (nI i)), none] [] (wld (tk, tp, bt, (T, C, rc, PF, PS, g, pp, bn, sc), b, crf, nt) u tl)) (6) ?_ ?_ 0 (Nat.zero_le _)
  · refine z_iload d_Roo_lawsFitted_20 rfl 22 rfl ?_
    refine z_bipush d_Roo_lawsFitted_22 6 (by decide) 24 rfl ?_
    refine z_icmp_ge d_Roo_lawsFitted_24 66 27 (by decide) rfl (fun h1 => ?_) (fun hzz => absurd (by decide) hzz)
    refine z_iload d_Roo_lawsFitted_66 rfl 68 rfl ?_
    exact z_ireturn d_Roo_lawsFitted_68 (rfl) (rfl)
  · intro i hi ih
    refine z_iload d_Roo_lawsFitted_20 rfl 22 rfl ?_
    refine z_bipush d_Roo_lawsFitted_22 6 (by decide) 24 rfl ?_
    refine z_icmp_ge d_Roo_lawsFitted_24 66 27 (by decide) rfl (fun hzz => absurd hzz (show ¬ nI 6 ≤ nI i from nI_ge hi (by decide))) (fun h2 => ?_)
    refine z_aload_n d_Roo_lawsFitted_27 rfl 28 rfl ?_
    refine z_iload d_Roo_lawsFitted_28 rfl 30 rfl ?_
    refine z_invv d_Roo_lawsFitted_30 33 rfl hm_Roo_lawAt lk_Roo_48 im_Roo_lawAt sl_Roo_Roo_lawAt rfl wc_3 (r_Roo_lawAt_s i hi) rfl rfl (by decide) rfl rfl (Nat.le_of_ble_eq_true rfl) ?_
    refine z_astore d_Roo_lawsFitted_33 35 rfl (by decide) rfl ?_
    refine z_aload d_Roo_lawsFitted_35 rfl 37 rfl ?_
    refine z_ifnull d_Roo_lawsFitted_37 40 rfl ?_
    refine z_aload d_Roo_lawsFitted_40 rfl 42 rfl ?_
    refine z_aload_n d_Roo_lawsFitted_42 rfl 43 rfl ?_
    refine z_iload_n d_Roo_lawsFitted_43 rfl 44 rfl ?_
    refine z_iload_n d_Roo_lawsFitted_44 rfl 45 rfl ?_
    refine z_invv d_Roo_lawsFitted_45 48 rfl hm_Law_brokenBy lk_Roo_112 im_Law_brokenBy sl_Law_Law_brokenBy rfl (wc_law hi) (r_Law_brokenBy _ _ (wc_law hi) (wc_cond hi) hP) rfl rfl (by decide) rfl rfl (Nat.le_of_ble_eq_true rfl) ?_
    refine z_if_ne d_Roo_lawsFitted_48 60 51 (by decide) rfl (fun h3 => ?_) (fun h3 => ?_)
    · have e1 : ¬ lb0 (C i) v (hdC (sc 3) (v 0) (g 0) (v 4)) (hdC (sc 3) (v 1) (g 1) (v 4)) = 0 := h3
      refine z_iinc d_Roo_lawsFitted_60 1 (by decide) 63 rfl rfl (by decide) rfl ?_
      refine z_goto d_Roo_lawsFitted_63 20 (by decide) ?_
      exact z_Lg _ ih (by first | (simp [zLw, List.set, nI_succ, lfC, e1]; done))
    · have e1 : lb0 (C i) v (hdC (sc 3) (v 0) (g 0) (v 4)) (hdC (sc 3) (v 1) (g 1) (v 4)) = 0 := by have := h3; simpa using this
      refine z_iload d_Roo_lawsFitted_51 rfl 53 rfl ?_
      refine z_iconst d_Roo_lawsFitted_53 1 (by decide) 54 rfl ?_
      refine z_iload d_Roo_lawsFitted_54 rfl 56 rfl ?_
      refine z_ishl d_Roo_lawsFitted_56 57 rfl ?_
      refine z_ior d_Roo_lawsFitted_57 58 rfl ?_
      refine z_istore d_Roo_lawsFitted_58 60 rfl (by decide) rfl ?_
      refine z_iinc d_Roo_lawsFitted_60 1 (by decide) 63 rfl rfl (by decide) rfl ?_
      refine z_goto d_Roo_lawsFitted_63 20 (by decide) ?_
      exact z_Lg _ ih (by first | (simp [zLw, List.set, nI_succ, lfC, e1]; done))
