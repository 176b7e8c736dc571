theorem wm_45 {K : zKK} {rf s im mt rd sc : Nat → Int32} {tl : List zC} : (wld K (rf, s, im, mt, rd, sc) tl)[45]? = some (.inr (.inr (11, [.ref 46, .ref 47, .ref 48, .int (sc 0), .ref 49, .ref 50, .int (sc 1), .int (sc 2)]))) := rfl
theorem wm_46 {K : zKK} {rf s im mt rd sc : Nat → Int32} {tl : List zC} : (wld K (rf, s, im, mt, rd, sc) tl)[46]? = some (.inl (7, rf)) := rfl
theorem wm_47 {K : zKK} {rf s im mt rd sc : Nat → Int32} {tl : List zC} : (wld K (rf, s, im, mt, rd, sc) tl)[47]? = some (.inl (268, s)) := rfl
theorem wm_48 {K : zKK} {rf s im mt rd sc : Nat → Int32} {tl : List zC} : (wld K (rf, s, im, mt, rd, sc) tl)[48]? = some (.inl (268, im)) := rfl
theorem wm_49 {K : zKK} {rf s im mt rd sc : Nat → Int32} {tl : List zC} : (wld K (rf, s, im, mt, rd, sc) tl)[49]? = some (.inl (24, mt)) := rfl
theorem wm_50 {K : zKK} {rf s im mt rd sc : Nat → Int32} {tl : List zC} : (wld K (rf, s, im, mt, rd, sc) tl)[50]? = some (.inl (6, rd)) := rfl
def inR (t a : Int32) : Bool := decide (0 ≤ t ∧ t < a)
set_option maxHeartbeats 400000 in
theorem r_Mod_refuse {K : zKK} {rf s im mt rd sc : Nat → Int32} {tl : List zC} (c : Int32) (j : Nat) (hj : -c = nI j) (hb : j < 7) : Ret 0 0 0 m_Mod_refuse [.ref 45, .int c] (wld K (rf, s, im, mt, rd, sc) tl) (some (.int c)) (wld K (upd rf j (rf j + 1), s, im, mt, rd, sc) tl) := by
  refine Ret.of (n := 0) (by decide) (rfl) rfl (fun X => ?_)
  refine z_aload_n d_Mod_refuse_0 rfl 1 rfl ?_
  refine z_get d_Mod_refuse_1 4 rfl fl_Mod_7_11 wm_45 rfl ?_
  refine z_iload_n d_Mod_refuse_4 rfl 5 rfl ?_
  refine z_ineg d_Mod_refuse_5 6 rfl ?_
  refine z_dup2 d_Mod_refuse_6 rfl rfl 7 rfl ?_
  refine z_iaload d_Mod_refuse_7 (j) 8 rfl wm_46 (hj) (hb) (by decide) ?_
  refine z_iconst d_Mod_refuse_8 1 (by decide) 9 rfl ?_
  refine z_iadd d_Mod_refuse_9 10 rfl ?_
  refine z_iastore d_Mod_refuse_10 (j) 11 rfl wm_46 (hj) (hb) (by decide) ?_
  refine z_hp ws_46 ?_
  refine z_iload_n d_Mod_refuse_11 rfl 12 rfl ?_
  exact z_ireturn d_Mod_refuse_12 (rfl) (rfl)
set_option maxHeartbeats 400000 in
theorem r_Mod_isIn {hp : List zC} (v n : Int32) : Ret 0 0 0 m_Mod_isIn [.int v, .int n] (hp) (some (.int (zb (inR v n)))) (hp) := by
  refine Ret.of (n := 0) (by decide) (zb_nar _) rfl (fun X => ?_)
  refine z_iload_n d_Mod_isIn_0 rfl 1 rfl ?_
  refine z_if_lt d_Mod_isIn_1 13 4 (by decide) rfl (fun h1 => ?_) (fun h1 => ?_)
  · refine z_iconst d_Mod_isIn_13 0 (by decide) 14 rfl ?_
    exact z_ireturn d_Mod_isIn_14 (by first | (simp [zb, inR, *]; done) | (simp_all [zb, inR, ← Int32.not_le]; done)) (rfl)
  · refine z_iload_n d_Mod_isIn_4 rfl 5 rfl ?_
    refine z_iload_n d_Mod_isIn_5 rfl 6 rfl ?_
    refine z_icmp_ge d_Mod_isIn_6 13 9 (by decide) rfl (fun h2 => ?_) (fun h2 => ?_)
    · refine z_iconst d_Mod_isIn_13 0 (by decide) 14 rfl ?_
      exact z_ireturn d_Mod_isIn_14 (by first | (simp [zb, inR, *]; done) | (simp_all [zb, inR, ← Int32.not_le]; done)) (rfl)
    · refine z_iconst d_Mod_isIn_9 1 (by decide) 10 rfl ?_
      refine z_goto d_Mod_isIn_10 14 (by decide) ?_
      exact z_ireturn d_Mod_isIn_14 (by first | (simp [zb, inR, *]; done) | (simp_all [zb, inR, ← Int32.not_le]; done)) (rfl)
set_option maxHeartbeats 400000 in
theorem r_Mod_within {hp : List zC} (v a b : Int32) : Ret 0 0 0 m_Mod_within [.int v, .int a, .int b] (hp) (some (.int (if v < a then -4 else if b < v then -6 else 0))) (hp) := by
  refine Ret.of (n := 0) (by decide) (rfl) rfl (fun X => ?_)
  refine z_iload_n d_Mod_within_0 rfl 1 rfl ?_
  refine z_iload_n d_Mod_within_1 rfl 2 rfl ?_
  refine z_icmp_ge d_Mod_within_2 10 5 (by decide) rfl (fun h1 => ?_) (fun h1 => ?_)
  · refine z_iload_n d_Mod_within_10 rfl 11 rfl ?_
    refine z_iload_n d_Mod_within_11 rfl 12 rfl ?_
    refine z_icmp_le d_Mod_within_12 20 15 (by decide) rfl (fun h2 => ?_) (fun h2 => ?_)
    · refine z_iconst d_Mod_within_20 0 (by decide) 21 rfl ?_
      exact z_ireturn d_Mod_within_21 (by first | (simp [zb, *]; done) | (simp_all [zb, ← Int32.not_le]; done)) (rfl)
    · refine z_bipush d_Mod_within_15 (-6) (by decide) 17 rfl ?_
      refine z_goto d_Mod_within_17 21 (by decide) ?_
      exact z_ireturn d_Mod_within_21 (by first | (simp [zb, *]; done) | (simp_all [zb, ← Int32.not_le]; done)) (rfl)
  · refine z_bipush d_Mod_within_5 (-4) (by decide) 7 rfl ?_
    refine z_goto d_Mod_within_7 21 (by decide) ?_
    exact z_ireturn d_Mod_within_21 (by first | (simp [zb, *]; done) | (simp_all [zb, ← Int32.not_le]; done)) (rfl)
set_option maxHeartbeats 400000 in
theorem r_Mod_isTelling {K : zKK} {rf s im mt rd sc : Nat → Int32} {tl : List zC} (t : Int32) : Ret 1 0 0 m_Mod_isTelling [.ref 45, .int t] (wld K (rf, s, im, mt, rd, sc) tl) (some (.int (zb (inR t (s 0))))) (wld K (rf, s, im, mt, rd, sc) tl) := by
  refine Ret.of (n := 0) (by decide) (zb_nar _) rfl (fun X => ?_)
  refine z_iload_n d_Mod_isTelling_0 rfl 1 rfl ?_
  refine z_aload_n d_Mod_isTelling_1 rfl 2 rfl ?_
  refine z_get d_Mod_isTelling_2 5 rfl fl_Mod_13_11 wm_45 rfl ?_
  refine z_iconst d_Mod_isTelling_5 0 (by decide) 6 rfl ?_
  refine z_iaload d_Mod_isTelling_6 (0) 7 rfl wm_47 (rfl) (by omega) (by decide) ?_
  refine z_invs d_Mod_isTelling_7 10 rfl hm_Mod_isIn lk_Mod_25 st_Mod_isIn (r_Mod_isIn _ _) rfl rfl (by decide) rfl rfl (Nat.le_of_ble_eq_true rfl) ?_
  exact z_ireturn d_Mod_isTelling_10 (by first | (simp [zb, *]; done) | (simp_all [zb, ← Int32.not_le]; done)) (rfl)
set_option maxHeartbeats 400000 in
theorem r_Mod_isLaw {hp : List zC} (l : Int32) : Ret 1 0 0 m_Mod_isLaw [.int l] (hp) (some (.int (zb (inR l 6)))) (hp) := by
  refine Ret.of (n := 0) (by decide) (zb_nar _) rfl (fun X => ?_)
  refine z_iload_n d_Mod_isLaw_0 rfl 1 rfl ?_
  refine z_bipush d_Mod_isLaw_1 6 (by decide) 3 rfl ?_
  refine z_invs d_Mod_isLaw_3 6 rfl hm_Mod_isIn lk_Mod_25 st_Mod_isIn (r_Mod_isIn _ _) rfl rfl (by decide) rfl rfl (Nat.le_of_ble_eq_true rfl) ?_
  exact z_ireturn d_Mod_isLaw_6 (by first | (simp [zb, *]; done) | (simp_all [zb, ← Int32.not_le]; done)) (rfl)
set_option maxHeartbeats 400000 in
theorem r_Mod_get {K : zKK} {rf s im mt rd sc : Nat → Int32} {tl : List zC} (t k : Int32) (i j : Nat) (ht : t = nI i) (hk : k = nI j) (hb : 6 + 6 * i + j < 268) : Ret 0 0 0 m_Mod_get [.ref 45, .int t, .int k] (wld K (rf, s, im, mt, rd, sc) tl) (some (.int (s (6 + 6 * i + j)))) (wld K (rf, s, im, mt, rd, sc) tl) := by
  subst ht
  subst hk
  refine Ret.of (n := 0) (by decide) (rfl) rfl (fun X => ?_)
  refine z_aload_n d_Mod_get_0 rfl 1 rfl ?_
  refine z_get d_Mod_get_1 4 rfl fl_Mod_13_11 wm_45 rfl ?_
  refine z_bipush d_Mod_get_4 6 (by decide) 6 rfl ?_
  refine z_bipush d_Mod_get_6 6 (by decide) 8 rfl ?_
  refine z_iload_n d_Mod_get_8 rfl 9 rfl ?_
  refine z_imul d_Mod_get_9 10 rfl ?_
  refine z_iadd d_Mod_get_10 11 rfl ?_
  refine z_iload_n d_Mod_get_11 rfl 12 rfl ?_
  refine z_iadd d_Mod_get_12 13 rfl ?_
  refine z_iaload d_Mod_get_13 (((6 + (6 * i)) + j)) 14 rfl wm_47 (by show ((nI 6 + (nI 6 * nI i)) + nI j) = _; simp only [pk_mul, nI_add]) (by omega) (by decide) ?_
  exact z_ireturn d_Mod_get_14 (by first | (simp [zb, *]; done) | (simp_all [zb, ← Int32.not_le]; done)) (rfl)
set_option maxHeartbeats 400000 in
theorem r_Mod_becomes {K : zKK} {rf s im mt rd sc : Nat → Int32} {tl : List zC} (a v : Int32) (j : Nat) (ha : a = nI j) (hb : j < 268) : Ret 0 0 0 m_Mod_becomes [.ref 45, .int a, .int v] (wld K (rf, s, im, mt, rd, sc) tl) (some (.int (s j))) (wld K (rf, upd s j v, im, mt, rd, sc) tl) := by
  subst ha
  refine Ret.of (n := 1) (by decide) (rfl) rfl (fun X => ?_)
  refine z_aload_n d_Mod_becomes_0 rfl 1 rfl ?_
  refine z_get d_Mod_becomes_1 4 rfl fl_Mod_13_11 wm_45 rfl ?_
  refine z_iload_n d_Mod_becomes_4 rfl 5 rfl ?_
  refine z_iaload d_Mod_becomes_5 (j) 6 rfl wm_47 (rfl) (by omega) (by decide) ?_
  refine z_istore_n d_Mod_becomes_6 7 rfl (by decide) rfl ?_
  refine z_aload_n d_Mod_becomes_7 rfl 8 rfl ?_
  refine z_get d_Mod_becomes_8 11 rfl fl_Mod_13_11 wm_45 rfl ?_
  refine z_iload_n d_Mod_becomes_11 rfl 12 rfl ?_
  refine z_iload_n d_Mod_becomes_12 rfl 13 rfl ?_
  refine z_iastore d_Mod_becomes_13 (j) 14 rfl wm_47 (rfl) (by omega) (by decide) ?_
  refine z_hp ws_47 ?_
  refine z_iload_n d_Mod_becomes_14 rfl 15 rfl ?_
  exact z_ireturn d_Mod_becomes_15 (by first | (simp [zb, *]; done) | (simp_all [zb, ← Int32.not_le]; done)) (rfl)
