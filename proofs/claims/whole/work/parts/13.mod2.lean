/-! what the methods answer, as functions of the reference's row s -/
def mkd (x k : Int32) : Bool := decide ((x >>> (k &&& 31)) &&& 1 = 1)
def kdV (mk yr ak : Int32) : Int32 := if ak = 1 then 5 else if (mkd mk 5 && !mkd mk 6) = true then 3 else if mkd mk 4 = true then (if mkd mk 3 = true then 2 else 1) else if 20 ≤ yr then 4 else 0
def wtV (sc mk yr ak : Int32) : Int32 := if ak = 1 then 1 else if (mkd mk 5 && !mkd mk 6) = true then 5 else if mkd mk 4 = true then (if mkd mk 3 = true then 15 + (if sc < 0 then 0 else sc) else 15) else if 20 ≤ yr then 8 - yr / 20 else 8
def rtV (v g y : Int32) : Int32 := if v < 0 then -9 else 100 * v / (100 + g * y)
def hvV (s : Nat → Int32) (t w : Nat) : Int32 := if s 2 = 1 then rtV (s (6 + 6 * t + w)) (s (4 + w)) (s (6 + 6 * t + 4)) else s (6 + 6 * t + w)
def mts (s : Nat → Int32) (t l k : Nat) : Bool :=
  if k < 4 then decide (s (6 + 6 * t + k / 2) < 0) || (if k % 2 = 0 then decide (s (186 + 8 * l + k) ≤ hvV s t (k / 2)) else decide (hvV s t (k / 2) ≤ s (186 + 8 * l + k)))
  else if k = 4 then decide (s (6 + 6 * t + 2) < 0) || decide ((s (186 + 8 * l + 4) >>> (s (6 + 6 * t + 2) &&& 31)) &&& 1 = 1)
  else if k = 5 then decide (s (186 + 8 * l + 5) &&& (s (6 + 6 * t + 3) ^^^ -1) = 0)
  else decide (s (186 + 8 * l + 6) &&& s (6 + 6 * t + 3) = 0)
def fit (s : Nat → Int32) (t l : Nat) (w : Int32) : Bool := (List.range 7).all (fun k => !decide ((w >>> (nI k &&& 31)) &&& 1 = 0) || mts s t l k)
theorem fit_iff {s : Nat → Int32} {t l : Nat} {w : Int32} : fit s t l w = true ↔ ∀ k, k < 7 → (w >>> (nI k &&& 31)) &&& 1 = 0 → mts s t l k = true := by
  unfold fit
  rw [List.all_eq_true]
  refine ⟨fun h k hk hb => ?_, fun h k hk => ?_⟩
  · have := h k (List.mem_range.mpr hk)
    simpa [hb] using this
  · have := h k (List.mem_range.mp hk)
    by_cases hb : (w >>> (nI k &&& 31)) &&& 1 = 0
    · simp [hb, this hb]
    · simp [hb]
theorem fit_no {s : Nat → Int32} {t l : Nat} {w : Int32} (h : ¬ ∀ k, k < 7 → (w >>> (nI k &&& 31)) &&& 1 = 0 → mts s t l k = true) : fit s t l w = false := by
  cases hf : fit s t l w with
  | false => rfl
  | true => exact absurd (fit_iff.mp hf) h
def lwTo (s : Nat → Int32) (t : Nat) : Nat → Int32
  | 0 => 0
  | i + 1 => lwTo s t i ||| (if fit s t i 0 = true then 1 <<< (nI i &&& 31) else 0)
def sm (f : Nat → Int32) : Nat → Int32
  | 0 => 0
  | n + 1 => sm f n + f n
/-- the divisor of what is put right is no 0 -/
def NZ (s : Nat → Int32) (n : Nat) : Prop := ∀ t, t < n → ∀ w, w < 2 → ¬ 100 + s (4 + w) * s (6 + 6 * t + 4) = 0
set_option maxHeartbeats 400000 in
theorem r_Mod_isMarked {K : zKK} {rf s im mt rd sc : Nat → Int32} {tl : List zC} (t k : Int32) (i : Nat) (ht : t = nI i) (hi : i < 30) : Ret 1 0 0 m_Mod_isMarked [.ref 45, .int t, .int k] (wld K (rf, s, im, mt, rd, sc) tl) (some (.int (zb (mkd (s (6 + 6 * i + 3)) k)))) (wld K (rf, s, im, mt, rd, sc) tl) := by
  subst ht
  refine Ret.of (n := 0) (by decide) (zb_nar _) rfl (fun X => ?_)
  refine z_aload_n d_Mod_isMarked_0 rfl 1 rfl ?_
  refine z_iload_n d_Mod_isMarked_1 rfl 2 rfl ?_
  refine z_iconst d_Mod_isMarked_2 3 (by decide) 3 rfl ?_
  refine z_invv d_Mod_isMarked_3 6 rfl hm_Mod_get lk_Mod_66 im_Mod_get sl_Mod_Mod_get rfl wm_45 (r_Mod_get _ _ (i) (3) rfl rfl (by omega)) rfl rfl (by decide) rfl rfl (Nat.le_of_ble_eq_true rfl) ?_
  refine z_iload_n d_Mod_isMarked_6 rfl 7 rfl ?_
  refine z_ishr d_Mod_isMarked_7 8 rfl ?_
  refine z_iconst d_Mod_isMarked_8 1 (by decide) 9 rfl ?_
  refine z_iand d_Mod_isMarked_9 10 rfl ?_
  refine z_iconst d_Mod_isMarked_10 1 (by decide) 11 rfl ?_
  refine z_icmp_ne d_Mod_isMarked_11 18 14 (by decide) rfl (fun h1 => ?_) (fun h1 => ?_)
  · refine z_iconst d_Mod_isMarked_18 0 (by decide) 19 rfl ?_
    exact z_ireturn d_Mod_isMarked_19 (by simp [zb, mkd, *]) (rfl)
  · refine z_iconst d_Mod_isMarked_14 1 (by decide) 15 rfl ?_
    refine z_goto d_Mod_isMarked_15 19 (by decide) ?_
    exact z_ireturn d_Mod_isMarked_19 (by simp [zb, mkd, *]) (rfl)
set_option maxHeartbeats 400000 in
theorem r_Mod_kindOf {K : zKK} {rf s im mt rd sc : Nat → Int32} {tl : List zC} (t : Int32) (i : Nat) (ht : t = nI i) (hi : i < 30) : Ret 2 0 0 m_Mod_kindOf [.ref 45, .int t] (wld K (rf, s, im, mt, rd, sc) tl) (some (.int (kdV (s (6 + 6 * i + 3)) (s (6 + 6 * i + 4)) (s (6 + 6 * i + 5))))) (wld K (rf, s, im, mt, rd, sc) tl) := by
  subst ht
  refine Ret.of (n := 0) (by decide) (rfl) rfl (fun X => ?_)
  refine z_aload_n d_Mod_kindOf_0 rfl 1 rfl ?_
  refine z_iload_n d_Mod_kindOf_1 rfl 2 rfl ?_
  refine z_iconst d_Mod_kindOf_2 5 (by decide) 3 rfl ?_
  refine z_invv d_Mod_kindOf_3 6 rfl hm_Mod_get lk_Mod_66 im_Mod_get sl_Mod_Mod_get rfl wm_45 (r_Mod_get _ _ (i) (5) rfl rfl (by omega)) rfl rfl (by decide) rfl rfl (Nat.le_of_ble_eq_true rfl) ?_
  refine z_iconst d_Mod_kindOf_6 1 (by decide) 7 rfl ?_
  refine z_icmp_ne d_Mod_kindOf_7 12 10 (by decide) rfl (fun h1 => ?_) (fun h1 => ?_)
  · refine z_aload_n d_Mod_kindOf_12 rfl 13 rfl ?_
    refine z_iload_n d_Mod_kindOf_13 rfl 14 rfl ?_
    refine z_iconst d_Mod_kindOf_14 5 (by decide) 15 rfl ?_
    refine z_invv d_Mod_kindOf_15 18 rfl hm_Mod_isMarked lk_Mod_70 im_Mod_isMarked sl_Mod_Mod_isMarked rfl wm_45 (r_Mod_isMarked _ _ (i) rfl (by omega)) rfl rfl (by decide) rfl rfl (Nat.le_of_ble_eq_true rfl) ?_
    refine z_if_eq d_Mod_kindOf_18 33 21 (by decide) rfl (fun h2 => ?_) (fun h2 => ?_)
    · refine z_aload_n d_Mod_kindOf_33 rfl 34 rfl ?_
      refine z_iload_n d_Mod_kindOf_34 rfl 35 rfl ?_
      refine z_iconst d_Mod_kindOf_35 4 (by decide) 36 rfl ?_
      refine z_invv d_Mod_kindOf_36 39 rfl hm_Mod_isMarked lk_Mod_70 im_Mod_isMarked sl_Mod_Mod_isMarked rfl wm_45 (r_Mod_isMarked _ _ (i) rfl (by omega)) rfl rfl (by decide) rfl rfl (Nat.le_of_ble_eq_true rfl) ?_
      refine z_if_eq d_Mod_kindOf_39 57 42 (by decide) rfl (fun h3 => ?_) (fun h3 => ?_)
      · refine z_aload_n d_Mod_kindOf_57 rfl 58 rfl ?_
        refine z_iload_n d_Mod_kindOf_58 rfl 59 rfl ?_
        refine z_iconst d_Mod_kindOf_59 4 (by decide) 60 rfl ?_
        refine z_invv d_Mod_kindOf_60 63 rfl hm_Mod_get lk_Mod_66 im_Mod_get sl_Mod_Mod_get rfl wm_45 (r_Mod_get _ _ (i) (4) rfl rfl (by omega)) rfl rfl (by decide) rfl rfl (Nat.le_of_ble_eq_true rfl) ?_
        refine z_bipush d_Mod_kindOf_63 20 (by decide) 65 rfl ?_
        refine z_icmp_lt d_Mod_kindOf_65 72 68 (by decide) rfl (fun h4 => ?_) (fun h4 => ?_)
        · refine z_iconst d_Mod_kindOf_72 0 (by decide) 73 rfl ?_
          exact z_ireturn d_Mod_kindOf_73 (by simp_all [zb_ne, zb_eq, kdV, ← Int32.not_le]) (rfl)
        · refine z_iconst d_Mod_kindOf_68 4 (by decide) 69 rfl ?_
          refine z_goto d_Mod_kindOf_69 73 (by decide) ?_
          exact z_ireturn d_Mod_kindOf_73 (by simp_all [zb_ne, zb_eq, kdV, ← Int32.not_le]) (rfl)
      · refine z_aload_n d_Mod_kindOf_42 rfl 43 rfl ?_
        refine z_iload_n d_Mod_kindOf_43 rfl 44 rfl ?_
        refine z_iconst d_Mod_kindOf_44 3 (by decide) 45 rfl ?_
        refine z_invv d_Mod_kindOf_45 48 rfl hm_Mod_isMarked lk_Mod_70 im_Mod_isMarked sl_Mod_Mod_isMarked rfl wm_45 (r_Mod_isMarked _ _ (i) rfl (by omega)) rfl rfl (by decide) rfl rfl (Nat.le_of_ble_eq_true rfl) ?_
        refine z_if_eq d_Mod_kindOf_48 55 51 (by decide) rfl (fun h5 => ?_) (fun h5 => ?_)
        · refine z_iconst d_Mod_kindOf_55 1 (by decide) 56 rfl ?_
          exact z_ireturn d_Mod_kindOf_56 (by simp_all [zb_ne, zb_eq, kdV, ← Int32.not_le]) (rfl)
        · refine z_iconst d_Mod_kindOf_51 2 (by decide) 52 rfl ?_
          refine z_goto d_Mod_kindOf_52 56 (by decide) ?_
          exact z_ireturn d_Mod_kindOf_56 (by simp_all [zb_ne, zb_eq, kdV, ← Int32.not_le]) (rfl)
    · refine z_aload_n d_Mod_kindOf_21 rfl 22 rfl ?_
      refine z_iload_n d_Mod_kindOf_22 rfl 23 rfl ?_
      refine z_bipush d_Mod_kindOf_23 6 (by decide) 25 rfl ?_
      refine z_invv d_Mod_kindOf_25 28 rfl hm_Mod_isMarked lk_Mod_70 im_Mod_isMarked sl_Mod_Mod_isMarked rfl wm_45 (r_Mod_isMarked _ _ (i) rfl (by omega)) rfl rfl (by decide) rfl rfl (Nat.le_of_ble_eq_true rfl) ?_
      refine z_if_ne d_Mod_kindOf_28 33 31 (by decide) rfl (fun h6 => ?_) (fun h6 => ?_)
      · refine z_aload_n d_Mod_kindOf_33 rfl 34 rfl ?_
        refine z_iload_n d_Mod_kindOf_34 rfl 35 rfl ?_
        refine z_iconst d_Mod_kindOf_35 4 (by decide) 36 rfl ?_
        refine z_invv d_Mod_kindOf_36 39 rfl hm_Mod_isMarked lk_Mod_70 im_Mod_isMarked sl_Mod_Mod_isMarked rfl wm_45 (r_Mod_isMarked _ _ (i) rfl (by omega)) rfl rfl (by decide) rfl rfl (Nat.le_of_ble_eq_true rfl) ?_
        refine z_if_eq d_Mod_kindOf_39 57 42 (by decide) rfl (fun h7 => ?_) (fun h7 => ?_)
        · refine z_aload_n d_Mod_kindOf_57 rfl 58 rfl ?_
          refine z_iload_n d_Mod_kindOf_58 rfl 59 rfl ?_
          refine z_iconst d_Mod_kindOf_59 4 (by decide) 60 rfl ?_
          refine z_invv d_Mod_kindOf_60 63 rfl hm_Mod_get lk_Mod_66 im_Mod_get sl_Mod_Mod_get rfl wm_45 (r_Mod_get _ _ (i) (4) rfl rfl (by omega)) rfl rfl (by decide) rfl rfl (Nat.le_of_ble_eq_true rfl) ?_
          refine z_bipush d_Mod_kindOf_63 20 (by decide) 65 rfl ?_
          refine z_icmp_lt d_Mod_kindOf_65 72 68 (by decide) rfl (fun h8 => ?_) (fun h8 => ?_)
          · refine z_iconst d_Mod_kindOf_72 0 (by decide) 73 rfl ?_
            exact z_ireturn d_Mod_kindOf_73 (by simp_all [zb_ne, zb_eq, kdV, ← Int32.not_le]) (rfl)
          · refine z_iconst d_Mod_kindOf_68 4 (by decide) 69 rfl ?_
            refine z_goto d_Mod_kindOf_69 73 (by decide) ?_
            exact z_ireturn d_Mod_kindOf_73 (by simp_all [zb_ne, zb_eq, kdV, ← Int32.not_le]) (rfl)
        · refine z_aload_n d_Mod_kindOf_42 rfl 43 rfl ?_
          refine z_iload_n d_Mod_kindOf_43 rfl 44 rfl ?_
          refine z_iconst d_Mod_kindOf_44 3 (by decide) 45 rfl ?_
          refine z_invv d_Mod_kindOf_45 48 rfl hm_Mod_isMarked lk_Mod_70 im_Mod_isMarked sl_Mod_Mod_isMarked rfl wm_45 (r_Mod_isMarked _ _ (i) rfl (by omega)) rfl rfl (by decide) rfl rfl (Nat.le_of_ble_eq_true rfl) ?_
          refine z_if_eq d_Mod_kindOf_48 55 51 (by decide) rfl (fun h9 => ?_) (fun h9 => ?_)
          · refine z_iconst d_Mod_kindOf_55 1 (by decide) 56 rfl ?_
            exact z_ireturn d_Mod_kindOf_56 (by simp_all [zb_ne, zb_eq, kdV, ← Int32.not_le]) (rfl)
          · refine z_iconst d_Mod_kindOf_51 2 (by decide) 52 rfl ?_
            refine z_goto d_Mod_kindOf_52 56 (by decide) ?_
            exact z_ireturn d_Mod_kindOf_56 (by simp_all [zb_ne, zb_eq, kdV, ← Int32.not_le]) (rfl)
      · refine z_iconst d_Mod_kindOf_31 3 (by decide) 32 rfl ?_
        exact z_ireturn d_Mod_kindOf_32 (by simp_all [zb_ne, zb_eq, kdV, ← Int32.not_le]) (rfl)
  · refine z_iconst d_Mod_kindOf_10 5 (by decide) 11 rfl ?_
    exact z_ireturn d_Mod_kindOf_11 (by simp_all [zb_ne, zb_eq, kdV, ← Int32.not_le]) (rfl)
set_option maxHeartbeats 400000 in
theorem r_Mod_weightOf_0 {K : zKK} {rf s im mt rd sc : Nat → Int32} {tl : List zC} (t : Int32) (i : Nat) (ht : t = nI i) (hi : i < 30) (hk : kdV (s (6 + 6 * i + 3)) (s (6 + 6 * i + 4)) (s (6 + 6 * i + 5)) = 0) : Ret 3 0 0 m_Mod_weightOf [.ref 45, .int t] (wld K (rf, s, im, mt, rd, sc) tl) (some (.int (8))) (wld K (rf, s, im, mt, rd, sc) tl) := by
  subst ht
  refine Ret.of (n := 0) (by decide) (rfl) rfl (fun X => ?_)
  refine z_aload_n d_Mod_weightOf_0 rfl 1 rfl ?_
  refine z_iload_n d_Mod_weightOf_1 rfl 2 rfl ?_
  refine z_invv d_Mod_weightOf_2 5 rfl hm_Mod_kindOf lk_Mod_73 im_Mod_kindOf sl_Mod_Mod_kindOf rfl wm_45 (r_Mod_kindOf _ (i) rfl (by omega)) rfl rfl (by decide) rfl rfl (Nat.le_of_ble_eq_true rfl) ?_
  refine z_top (.int 0) (by rw [hk]) ?_
  refine z_tabOut d_Mod_weightOf_5 83 (by decide) (by decide) ?_
  refine z_bipush d_Mod_weightOf_83 8 (by decide) 85 rfl ?_
  exact z_ireturn d_Mod_weightOf_85 (rfl) (rfl)
set_option maxHeartbeats 400000 in
theorem r_Mod_weightOf_1 {K : zKK} {rf s im mt rd sc : Nat → Int32} {tl : List zC} (t : Int32) (i : Nat) (ht : t = nI i) (hi : i < 30) (hk : kdV (s (6 + 6 * i + 3)) (s (6 + 6 * i + 4)) (s (6 + 6 * i + 5)) = 1) : Ret 3 0 0 m_Mod_weightOf [.ref 45, .int t] (wld K (rf, s, im, mt, rd, sc) tl) (some (.int (15))) (wld K (rf, s, im, mt, rd, sc) tl) := by
  subst ht
  refine Ret.of (n := 0) (by decide) (rfl) rfl (fun X => ?_)
  refine z_aload_n d_Mod_weightOf_0 rfl 1 rfl ?_
  refine z_iload_n d_Mod_weightOf_1 rfl 2 rfl ?_
  refine z_invv d_Mod_weightOf_2 5 rfl hm_Mod_kindOf lk_Mod_73 im_Mod_kindOf sl_Mod_Mod_kindOf rfl wm_45 (r_Mod_kindOf _ (i) rfl (by omega)) rfl rfl (by decide) rfl rfl (Nat.le_of_ble_eq_true rfl) ?_
  refine z_top (.int 1) (by rw [hk]) ?_
  refine z_tabIn (off := 35) d_Mod_weightOf_5 40 (by decide) (by decide) (by decide) (by decide) ?_
  refine z_bipush d_Mod_weightOf_40 15 (by decide) 42 rfl ?_
  exact z_ireturn d_Mod_weightOf_42 (rfl) (rfl)
set_option maxHeartbeats 400000 in
theorem r_Mod_weightOf_2 {K : zKK} {rf s im mt rd sc : Nat → Int32} {tl : List zC} (t : Int32) (i : Nat) (ht : t = nI i) (hi : i < 30) (hk : kdV (s (6 + 6 * i + 3)) (s (6 + 6 * i + 4)) (s (6 + 6 * i + 5)) = 2) : Ret 3 0 0 m_Mod_weightOf [.ref 45, .int t] (wld K (rf, s, im, mt, rd, sc) tl) (some (.int (15 + (if s (6 + 6 * i + 1) < 0 then 0 else s (6 + 6 * i + 1))))) (wld K (rf, s, im, mt, rd, sc) tl) := by
  subst ht
  refine Ret.of (n := 0) (by decide) (rfl) rfl (fun X => ?_)
  refine z_aload_n d_Mod_weightOf_0 rfl 1 rfl ?_
  refine z_iload_n d_Mod_weightOf_1 rfl 2 rfl ?_
  refine z_invv d_Mod_weightOf_2 5 rfl hm_Mod_kindOf lk_Mod_73 im_Mod_kindOf sl_Mod_Mod_kindOf rfl wm_45 (r_Mod_kindOf _ (i) rfl (by omega)) rfl rfl (by decide) rfl rfl (Nat.le_of_ble_eq_true rfl) ?_
  refine z_top (.int 2) (by rw [hk]) ?_
  refine z_tabIn (off := 38) d_Mod_weightOf_5 43 (by decide) (by decide) (by decide) (by decide) ?_
  refine z_bipush d_Mod_weightOf_43 15 (by decide) 45 rfl ?_
  refine z_aload_n d_Mod_weightOf_45 rfl 46 rfl ?_
  refine z_iload_n d_Mod_weightOf_46 rfl 47 rfl ?_
  refine z_iconst d_Mod_weightOf_47 1 (by decide) 48 rfl ?_
  refine z_invv d_Mod_weightOf_48 51 rfl hm_Mod_get lk_Mod_66 im_Mod_get sl_Mod_Mod_get rfl wm_45 (r_Mod_get _ _ (i) (1) rfl rfl (by omega)) rfl rfl (by decide) rfl rfl (Nat.le_of_ble_eq_true rfl) ?_
  refine z_if_ge d_Mod_weightOf_51 58 54 (by decide) rfl (fun h1 => ?_) (fun h1 => ?_)
  · refine z_aload_n d_Mod_weightOf_58 rfl 59 rfl ?_
    refine z_iload_n d_Mod_weightOf_59 rfl 60 rfl ?_
    refine z_iconst d_Mod_weightOf_60 1 (by decide) 61 rfl ?_
    refine z_invv d_Mod_weightOf_61 64 rfl hm_Mod_get lk_Mod_66 im_Mod_get sl_Mod_Mod_get rfl wm_45 (r_Mod_get _ _ (i) (1) rfl rfl (by omega)) rfl rfl (by decide) rfl rfl (Nat.le_of_ble_eq_true rfl) ?_
    refine z_iadd d_Mod_weightOf_64 65 rfl ?_
    exact z_ireturn d_Mod_weightOf_65 (by simp_all [← Int32.not_le]) (rfl)
  · refine z_iconst d_Mod_weightOf_54 0 (by decide) 55 rfl ?_
    refine z_goto d_Mod_weightOf_55 64 (by decide) ?_
    refine z_iadd d_Mod_weightOf_64 65 rfl ?_
    exact z_ireturn d_Mod_weightOf_65 (by simp_all [← Int32.not_le]) (rfl)
set_option maxHeartbeats 400000 in
theorem r_Mod_weightOf_3 {K : zKK} {rf s im mt rd sc : Nat → Int32} {tl : List zC} (t : Int32) (i : Nat) (ht : t = nI i) (hi : i < 30) (hk : kdV (s (6 + 6 * i + 3)) (s (6 + 6 * i + 4)) (s (6 + 6 * i + 5)) = 3) : Ret 3 0 0 m_Mod_weightOf [.ref 45, .int t] (wld K (rf, s, im, mt, rd, sc) tl) (some (.int (5))) (wld K (rf, s, im, mt, rd, sc) tl) := by
  subst ht
  refine Ret.of (n := 0) (by decide) (rfl) rfl (fun X => ?_)
  refine z_aload_n d_Mod_weightOf_0 rfl 1 rfl ?_
  refine z_iload_n d_Mod_weightOf_1 rfl 2 rfl ?_
  refine z_invv d_Mod_weightOf_2 5 rfl hm_Mod_kindOf lk_Mod_73 im_Mod_kindOf sl_Mod_Mod_kindOf rfl wm_45 (r_Mod_kindOf _ (i) rfl (by omega)) rfl rfl (by decide) rfl rfl (Nat.le_of_ble_eq_true rfl) ?_
  refine z_top (.int 3) (by rw [hk]) ?_
  refine z_tabIn (off := 61) d_Mod_weightOf_5 66 (by decide) (by decide) (by decide) (by decide) ?_
  refine z_iconst d_Mod_weightOf_66 5 (by decide) 67 rfl ?_
  exact z_ireturn d_Mod_weightOf_67 (rfl) (rfl)
set_option maxHeartbeats 400000 in
theorem r_Mod_weightOf_4 {K : zKK} {rf s im mt rd sc : Nat → Int32} {tl : List zC} (t : Int32) (i : Nat) (ht : t = nI i) (hi : i < 30) (hk : kdV (s (6 + 6 * i + 3)) (s (6 + 6 * i + 4)) (s (6 + 6 * i + 5)) = 4) : Ret 3 0 0 m_Mod_weightOf [.ref 45, .int t] (wld K (rf, s, im, mt, rd, sc) tl) (some (.int (8 - s (6 + 6 * i + 4) / 20))) (wld K (rf, s, im, mt, rd, sc) tl) := by
  subst ht
  refine Ret.of (n := 0) (by decide) (rfl) rfl (fun X => ?_)
  refine z_aload_n d_Mod_weightOf_0 rfl 1 rfl ?_
  refine z_iload_n d_Mod_weightOf_1 rfl 2 rfl ?_
  refine z_invv d_Mod_weightOf_2 5 rfl hm_Mod_kindOf lk_Mod_73 im_Mod_kindOf sl_Mod_Mod_kindOf rfl wm_45 (r_Mod_kindOf _ (i) rfl (by omega)) rfl rfl (by decide) rfl rfl (Nat.le_of_ble_eq_true rfl) ?_
  refine z_top (.int 4) (by rw [hk]) ?_
  refine z_tabIn (off := 63) d_Mod_weightOf_5 68 (by decide) (by decide) (by decide) (by decide) ?_
  refine z_bipush d_Mod_weightOf_68 8 (by decide) 70 rfl ?_
  refine z_aload_n d_Mod_weightOf_70 rfl 71 rfl ?_
  refine z_iload_n d_Mod_weightOf_71 rfl 72 rfl ?_
  refine z_iconst d_Mod_weightOf_72 4 (by decide) 73 rfl ?_
  refine z_invv d_Mod_weightOf_73 76 rfl hm_Mod_get lk_Mod_66 im_Mod_get sl_Mod_Mod_get rfl wm_45 (r_Mod_get _ _ (i) (4) rfl rfl (by omega)) rfl rfl (by decide) rfl rfl (Nat.le_of_ble_eq_true rfl) ?_
  refine z_bipush d_Mod_weightOf_76 20 (by decide) 78 rfl ?_
  refine z_idiv d_Mod_weightOf_78 (by decide) 79 rfl ?_
  refine z_isub d_Mod_weightOf_79 80 rfl ?_
  exact z_ireturn d_Mod_weightOf_80 (rfl) (rfl)
set_option maxHeartbeats 400000 in
theorem r_Mod_weightOf_5 {K : zKK} {rf s im mt rd sc : Nat → Int32} {tl : List zC} (t : Int32) (i : Nat) (ht : t = nI i) (hi : i < 30) (hk : kdV (s (6 + 6 * i + 3)) (s (6 + 6 * i + 4)) (s (6 + 6 * i + 5)) = 5) : Ret 3 0 0 m_Mod_weightOf [.ref 45, .int t] (wld K (rf, s, im, mt, rd, sc) tl) (some (.int (1))) (wld K (rf, s, im, mt, rd, sc) tl) := by
  subst ht
  refine Ret.of (n := 0) (by decide) (rfl) rfl (fun X => ?_)
  refine z_aload_n d_Mod_weightOf_0 rfl 1 rfl ?_
  refine z_iload_n d_Mod_weightOf_1 rfl 2 rfl ?_
  refine z_invv d_Mod_weightOf_2 5 rfl hm_Mod_kindOf lk_Mod_73 im_Mod_kindOf sl_Mod_Mod_kindOf rfl wm_45 (r_Mod_kindOf _ (i) rfl (by omega)) rfl rfl (by decide) rfl rfl (Nat.le_of_ble_eq_true rfl) ?_
  refine z_top (.int 5) (by rw [hk]) ?_
  refine z_tabIn (off := 76) d_Mod_weightOf_5 81 (by decide) (by decide) (by decide) (by decide) ?_
  refine z_iconst d_Mod_weightOf_81 1 (by decide) 82 rfl ?_
  exact z_ireturn d_Mod_weightOf_82 (rfl) (rfl)
theorem kd_cases (mk yr ak : Int32) : (kdV mk yr ak = 5 ∧ ∀ sc, wtV sc mk yr ak = 1) ∨ (kdV mk yr ak = 3 ∧ ∀ sc, wtV sc mk yr ak = 5) ∨ (kdV mk yr ak = 2 ∧ ∀ sc, wtV sc mk yr ak = 15 + (if sc < 0 then 0 else sc)) ∨ (kdV mk yr ak = 1 ∧ ∀ sc, wtV sc mk yr ak = 15) ∨ (kdV mk yr ak = 4 ∧ ∀ sc, wtV sc mk yr ak = 8 - yr / 20) ∨ (kdV mk yr ak = 0 ∧ ∀ sc, wtV sc mk yr ak = 8) := by
  unfold kdV wtV
  by_cases h1 : ak = 1
  · simp [h1]
  · by_cases h2 : (mkd mk 5 && !mkd mk 6) = true
    · simp only [h1, h2, if_true, if_false]; simp
    · by_cases h3 : mkd mk 4 = true
      · by_cases h4 : mkd mk 3 = true
        · simp only [h1, h2, h3, h4, if_true, if_false]; simp
        · simp only [h1, h2, h3, h4, if_true, if_false]; simp
      · by_cases h5 : 20 ≤ yr
        · simp only [h1, h2, h3, h5, if_true, if_false]; simp
        · simp only [h1, h2, h3, h5, if_true, if_false]; simp
theorem r_Mod_weightOf {K : zKK} {rf s im mt rd sc : Nat → Int32} {tl : List zC} (t : Int32) (i : Nat) (ht : t = nI i) (hi : i < 30) : Ret 3 0 0 m_Mod_weightOf [.ref 45, .int t] (wld K (rf, s, im, mt, rd, sc) tl) (some (.int (wtV (s (6 + 6 * i + 1)) (s (6 + 6 * i + 3)) (s (6 + 6 * i + 4)) (s (6 + 6 * i + 5))))) (wld K (rf, s, im, mt, rd, sc) tl) := by
  rcases kd_cases (s (6 + 6 * i + 3)) (s (6 + 6 * i + 4)) (s (6 + 6 * i + 5)) with ⟨h, e⟩ | ⟨h, e⟩ | ⟨h, e⟩ | ⟨h, e⟩ | ⟨h, e⟩ | ⟨h, e⟩ <;> rw [e]
  · exact r_Mod_weightOf_5 t i ht hi h
  · exact r_Mod_weightOf_3 t i ht hi h
  · exact r_Mod_weightOf_2 t i ht hi h
  · exact r_Mod_weightOf_1 t i ht hi h
  · exact r_Mod_weightOf_4 t i ht hi h
  · exact r_Mod_weightOf_0 t i ht hi h
set_option maxHeartbeats 400000 in
theorem r_Mod_rightOf {K : zKK} {rf s im mt rd sc : Nat → Int32} {tl : List zC} (t k : Int32) (i j : Nat) (ht : t = nI i) (hk : k = nI j) (hi : i < 30) (hj : j < 2) (hz : ¬ 100 + s (4 + j) * s (6 + 6 * i + 4) = 0) : Ret 1 0 0 m_Mod_rightOf [.ref 45, .int t, .int k] (wld K (rf, s, im, mt, rd, sc) tl) (some (.int (rtV (s (6 + 6 * i + j)) (s (4 + j)) (s (6 + 6 * i + 4))))) (wld K (rf, s, im, mt, rd, sc) tl) := by
  subst ht
  subst hk
  refine Ret.of (n := 0) (by decide) (rfl) rfl (fun X => ?_)
  refine z_aload_n d_Mod_rightOf_0 rfl 1 rfl ?_
  refine z_iload_n d_Mod_rightOf_1 rfl 2 rfl ?_
  refine z_iload_n d_Mod_rightOf_2 rfl 3 rfl ?_
  refine z_invv d_Mod_rightOf_3 6 rfl hm_Mod_get lk_Mod_66 im_Mod_get sl_Mod_Mod_get rfl wm_45 (r_Mod_get _ _ (i) (j) rfl rfl (by omega)) rfl rfl (by decide) rfl rfl (Nat.le_of_ble_eq_true rfl) ?_
  refine z_if_ge d_Mod_rightOf_6 14 9 (by decide) rfl (fun h1 => ?_) (fun h1 => ?_)
  · refine z_bipush d_Mod_rightOf_14 100 (by decide) 16 rfl ?_
    refine z_aload_n d_Mod_rightOf_16 rfl 17 rfl ?_
    refine z_iload_n d_Mod_rightOf_17 rfl 18 rfl ?_
    refine z_iload_n d_Mod_rightOf_18 rfl 19 rfl ?_
    refine z_invv d_Mod_rightOf_19 22 rfl hm_Mod_get lk_Mod_66 im_Mod_get sl_Mod_Mod_get rfl wm_45 (r_Mod_get _ _ (i) (j) rfl rfl (by omega)) rfl rfl (by decide) rfl rfl (Nat.le_of_ble_eq_true rfl) ?_
    refine z_imul d_Mod_rightOf_22 23 rfl ?_
    refine z_bipush d_Mod_rightOf_23 100 (by decide) 25 rfl ?_
    refine z_aload_n d_Mod_rightOf_25 rfl 26 rfl ?_
    refine z_get d_Mod_rightOf_26 29 rfl fl_Mod_13_11 wm_45 rfl ?_
    refine z_iconst d_Mod_rightOf_29 4 (by decide) 30 rfl ?_
    refine z_iload_n d_Mod_rightOf_30 rfl 31 rfl ?_
    refine z_iadd d_Mod_rightOf_31 32 rfl ?_
    refine z_iaload d_Mod_rightOf_32 ((4 + j)) 33 rfl wm_47 (by show (nI 4 + nI j) = _; simp only [pk_mul, nI_add]) (by omega) (by decide) ?_
    refine z_aload_n d_Mod_rightOf_33 rfl 34 rfl ?_
    refine z_iload_n d_Mod_rightOf_34 rfl 35 rfl ?_
    refine z_iconst d_Mod_rightOf_35 4 (by decide) 36 rfl ?_
    refine z_invv d_Mod_rightOf_36 39 rfl hm_Mod_get lk_Mod_66 im_Mod_get sl_Mod_Mod_get rfl wm_45 (r_Mod_get _ _ (i) (4) rfl rfl (by omega)) rfl rfl (by decide) rfl rfl (Nat.le_of_ble_eq_true rfl) ?_
    refine z_imul d_Mod_rightOf_39 40 rfl ?_
    refine z_iadd d_Mod_rightOf_40 41 rfl ?_
    refine z_idiv d_Mod_rightOf_41 hz 42 rfl ?_
    exact z_ireturn d_Mod_rightOf_42 (by simp_all [rtV, ← Int32.not_lt]) (rfl)
  · refine z_bipush d_Mod_rightOf_9 (-9) (by decide) 11 rfl ?_
    refine z_goto d_Mod_rightOf_11 42 (by decide) ?_
    exact z_ireturn d_Mod_rightOf_42 (by simp_all [rtV, ← Int32.not_lt]) (rfl)
set_option maxHeartbeats 400000 in
theorem r_Mod_meets_0 {K : zKK} {rf s im mt rd sc : Nat → Int32} {tl : List zC} (t l : Int32) (i j : Nat) (ht : t = nI i) (hl : l = nI j) (hi : i < 30) (hj : j < 6) (hz : ∀ w, w < 2 → ¬ 100 + s (4 + w) * s (6 + 6 * i + 4) = 0) : Ret 2 0 0 m_Mod_meets [.ref 45, .int t, .int l, .int 0] (wld K (rf, s, im, mt, rd, sc) tl) (some (.int (zb (mts s i j 0)))) (wld K (rf, s, im, mt, rd, sc) tl) := by
  subst ht
  subst hl
  refine Ret.of (n := 3) (by decide) (zb_nar _) rfl (fun X => ?_)
  refine z_aload_n d_Mod_meets_0 rfl 1 rfl ?_
  refine z_get d_Mod_meets_1 4 rfl fl_Mod_13_11 wm_45 rfl ?_
  refine z_sipush d_Mod_meets_4 186 (by decide) 7 rfl ?_
  refine z_bipush d_Mod_meets_7 8 (by decide) 9 rfl ?_
  refine z_iload_n d_Mod_meets_9 rfl 10 rfl ?_
  refine z_imul d_Mod_meets_10 11 rfl ?_
  refine z_iadd d_Mod_meets_11 12 rfl ?_
  refine z_iload_n d_Mod_meets_12 rfl 13 rfl ?_
  refine z_iadd d_Mod_meets_13 14 rfl ?_
  refine z_iaload d_Mod_meets_14 (((186 + (8 * j)) + 0)) 15 rfl wm_47 (by show ((nI 186 + (nI 8 * nI j)) + nI 0) = _; simp only [pk_mul, nI_add]) (by omega) (by decide) ?_
  refine z_istore d_Mod_meets_15 17 rfl (by decide) rfl ?_
  refine z_iload_n d_Mod_meets_17 rfl 18 rfl ?_
  refine z_iconst d_Mod_meets_18 4 (by decide) 19 rfl ?_
  refine z_icmp_ge d_Mod_meets_19 109 22 (by decide) rfl (fun h => absurd h (by decide)) (fun h1 => ?_)
  refine z_iload_n d_Mod_meets_22 rfl 23 rfl ?_
  refine z_iconst d_Mod_meets_23 2 (by decide) 24 rfl ?_
  refine z_icmp_ge d_Mod_meets_24 31 27 (by decide) rfl (fun h => absurd h (by decide)) (fun h2 => ?_)
  refine z_iconst d_Mod_meets_27 0 (by decide) 28 rfl ?_
  refine z_goto d_Mod_meets_28 32 (by decide) ?_
  refine z_istore d_Mod_meets_32 34 rfl (by decide) rfl ?_
  refine z_aload_n d_Mod_meets_34 rfl 35 rfl ?_
  refine z_iload_n d_Mod_meets_35 rfl 36 rfl ?_
  refine z_iload d_Mod_meets_36 rfl 38 rfl ?_
  refine z_invv d_Mod_meets_38 41 rfl hm_Mod_get lk_Mod_66 im_Mod_get sl_Mod_Mod_get rfl wm_45 (r_Mod_get _ _ (i) (0) rfl rfl (by omega)) rfl rfl (by decide) rfl rfl (Nat.le_of_ble_eq_true rfl) ?_
  refine z_if_ge d_Mod_meets_41 46 44 (by decide) rfl (fun h3 => ?_) (fun h3 => ?_)
  · refine z_aload_n d_Mod_meets_46 rfl 47 rfl ?_
    refine z_get d_Mod_meets_47 50 rfl fl_Mod_13_11 wm_45 rfl ?_
    refine z_iconst d_Mod_meets_50 2 (by decide) 51 rfl ?_
    refine z_iaload d_Mod_meets_51 (2) 52 rfl wm_47 (rfl) (by omega) (by decide) ?_
    refine z_iconst d_Mod_meets_52 1 (by decide) 53 rfl ?_
    refine z_icmp_ne d_Mod_meets_53 66 56 (by decide) rfl (fun h4 => ?_) (fun h4 => ?_)
    · refine z_aload_n d_Mod_meets_66 rfl 67 rfl ?_
      refine z_iload_n d_Mod_meets_67 rfl 68 rfl ?_
      refine z_iload d_Mod_meets_68 rfl 70 rfl ?_
      refine z_invv d_Mod_meets_70 73 rfl hm_Mod_get lk_Mod_66 im_Mod_get sl_Mod_Mod_get rfl wm_45 (r_Mod_get _ _ (i) (0) rfl rfl (by omega)) rfl rfl (by decide) rfl rfl (Nat.le_of_ble_eq_true rfl) ?_
      refine z_istore d_Mod_meets_73 75 rfl (by decide) rfl ?_
      refine z_iload_n d_Mod_meets_75 rfl 76 rfl ?_
      refine z_iconst d_Mod_meets_76 2 (by decide) 77 rfl ?_
      refine z_irem d_Mod_meets_77 (by decide) 78 rfl ?_
      refine z_if_ne d_Mod_meets_78 96 81 (by decide) rfl (fun h => absurd (by decide) h) (fun h5 => ?_)
      refine z_iload d_Mod_meets_81 rfl 83 rfl ?_
      refine z_iload d_Mod_meets_83 rfl 85 rfl ?_
      refine z_icmp_lt d_Mod_meets_85 92 88 (by decide) rfl (fun h6 => ?_) (fun h6 => ?_)
      · refine z_iconst d_Mod_meets_92 0 (by decide) 93 rfl ?_
        refine z_goto d_Mod_meets_93 108 (by decide) ?_
        exact z_ireturn d_Mod_meets_108 (by simp_all [zb, mts, hvV, ← Int32.not_le]) (rfl)
      · refine z_iconst d_Mod_meets_88 1 (by decide) 89 rfl ?_
        refine z_goto d_Mod_meets_89 108 (by decide) ?_
        exact z_ireturn d_Mod_meets_108 (by simp_all [zb, mts, hvV, ← Int32.not_le]) (rfl)
    · refine z_aload_n d_Mod_meets_56 rfl 57 rfl ?_
      refine z_iload_n d_Mod_meets_57 rfl 58 rfl ?_
      refine z_iload d_Mod_meets_58 rfl 60 rfl ?_
      refine z_invv d_Mod_meets_60 63 rfl hm_Mod_rightOf lk_Mod_89 im_Mod_rightOf sl_Mod_Mod_rightOf rfl wm_45 (r_Mod_rightOf _ _ (i) (0) rfl rfl (by omega) (by omega) (hz _ (by decide))) rfl rfl (by decide) rfl rfl (Nat.le_of_ble_eq_true rfl) ?_
      refine z_goto d_Mod_meets_63 73 (by decide) ?_
      refine z_istore d_Mod_meets_73 75 rfl (by decide) rfl ?_
      refine z_iload_n d_Mod_meets_75 rfl 76 rfl ?_
      refine z_iconst d_Mod_meets_76 2 (by decide) 77 rfl ?_
      refine z_irem d_Mod_meets_77 (by decide) 78 rfl ?_
      refine z_if_ne d_Mod_meets_78 96 81 (by decide) rfl (fun h => absurd (by decide) h) (fun h7 => ?_)
      refine z_iload d_Mod_meets_81 rfl 83 rfl ?_
      refine z_iload d_Mod_meets_83 rfl 85 rfl ?_
      refine z_icmp_lt d_Mod_meets_85 92 88 (by decide) rfl (fun h8 => ?_) (fun h8 => ?_)
      · refine z_iconst d_Mod_meets_92 0 (by decide) 93 rfl ?_
        refine z_goto d_Mod_meets_93 108 (by decide) ?_
        exact z_ireturn d_Mod_meets_108 (by simp_all [zb, mts, hvV, ← Int32.not_le]) (rfl)
      · refine z_iconst d_Mod_meets_88 1 (by decide) 89 rfl ?_
        refine z_goto d_Mod_meets_89 108 (by decide) ?_
        exact z_ireturn d_Mod_meets_108 (by simp_all [zb, mts, hvV, ← Int32.not_le]) (rfl)
  · refine z_iconst d_Mod_meets_44 1 (by decide) 45 rfl ?_
    exact z_ireturn d_Mod_meets_45 (by simp_all [zb, mts, hvV, ← Int32.not_le]) (rfl)
set_option maxHeartbeats 400000 in
theorem r_Mod_meets_1 {K : zKK} {rf s im mt rd sc : Nat → Int32} {tl : List zC} (t l : Int32) (i j : Nat) (ht : t = nI i) (hl : l = nI j) (hi : i < 30) (hj : j < 6) (hz : ∀ w, w < 2 → ¬ 100 + s (4 + w) * s (6 + 6 * i + 4) = 0) : Ret 2 0 0 m_Mod_meets [.ref 45, .int t, .int l, .int 1] (wld K (rf, s, im, mt, rd, sc) tl) (some (.int (zb (mts s i j 1)))) (wld K (rf, s, im, mt, rd, sc) tl) := by
  subst ht
  subst hl
  refine Ret.of (n := 3) (by decide) (zb_nar _) rfl (fun X => ?_)
  refine z_aload_n d_Mod_meets_0 rfl 1 rfl ?_
  refine z_get d_Mod_meets_1 4 rfl fl_Mod_13_11 wm_45 rfl ?_
  refine z_sipush d_Mod_meets_4 186 (by decide) 7 rfl ?_
  refine z_bipush d_Mod_meets_7 8 (by decide) 9 rfl ?_
  refine z_iload_n d_Mod_meets_9 rfl 10 rfl ?_
  refine z_imul d_Mod_meets_10 11 rfl ?_
  refine z_iadd d_Mod_meets_11 12 rfl ?_
  refine z_iload_n d_Mod_meets_12 rfl 13 rfl ?_
  refine z_iadd d_Mod_meets_13 14 rfl ?_
  refine z_iaload d_Mod_meets_14 (((186 + (8 * j)) + 1)) 15 rfl wm_47 (by show ((nI 186 + (nI 8 * nI j)) + nI 1) = _; simp only [pk_mul, nI_add]) (by omega) (by decide) ?_
  refine z_istore d_Mod_meets_15 17 rfl (by decide) rfl ?_
  refine z_iload_n d_Mod_meets_17 rfl 18 rfl ?_
  refine z_iconst d_Mod_meets_18 4 (by decide) 19 rfl ?_
  refine z_icmp_ge d_Mod_meets_19 109 22 (by decide) rfl (fun h => absurd h (by decide)) (fun h1 => ?_)
  refine z_iload_n d_Mod_meets_22 rfl 23 rfl ?_
  refine z_iconst d_Mod_meets_23 2 (by decide) 24 rfl ?_
  refine z_icmp_ge d_Mod_meets_24 31 27 (by decide) rfl (fun h => absurd h (by decide)) (fun h2 => ?_)
  refine z_iconst d_Mod_meets_27 0 (by decide) 28 rfl ?_
  refine z_goto d_Mod_meets_28 32 (by decide) ?_
  refine z_istore d_Mod_meets_32 34 rfl (by decide) rfl ?_
  refine z_aload_n d_Mod_meets_34 rfl 35 rfl ?_
  refine z_iload_n d_Mod_meets_35 rfl 36 rfl ?_
  refine z_iload d_Mod_meets_36 rfl 38 rfl ?_
  refine z_invv d_Mod_meets_38 41 rfl hm_Mod_get lk_Mod_66 im_Mod_get sl_Mod_Mod_get rfl wm_45 (r_Mod_get _ _ (i) (0) rfl rfl (by omega)) rfl rfl (by decide) rfl rfl (Nat.le_of_ble_eq_true rfl) ?_
  refine z_if_ge d_Mod_meets_41 46 44 (by decide) rfl (fun h3 => ?_) (fun h3 => ?_)
  · refine z_aload_n d_Mod_meets_46 rfl 47 rfl ?_
    refine z_get d_Mod_meets_47 50 rfl fl_Mod_13_11 wm_45 rfl ?_
    refine z_iconst d_Mod_meets_50 2 (by decide) 51 rfl ?_
    refine z_iaload d_Mod_meets_51 (2) 52 rfl wm_47 (rfl) (by omega) (by decide) ?_
    refine z_iconst d_Mod_meets_52 1 (by decide) 53 rfl ?_
    refine z_icmp_ne d_Mod_meets_53 66 56 (by decide) rfl (fun h4 => ?_) (fun h4 => ?_)
    · refine z_aload_n d_Mod_meets_66 rfl 67 rfl ?_
      refine z_iload_n d_Mod_meets_67 rfl 68 rfl ?_
      refine z_iload d_Mod_meets_68 rfl 70 rfl ?_
      refine z_invv d_Mod_meets_70 73 rfl hm_Mod_get lk_Mod_66 im_Mod_get sl_Mod_Mod_get rfl wm_45 (r_Mod_get _ _ (i) (0) rfl rfl (by omega)) rfl rfl (by decide) rfl rfl (Nat.le_of_ble_eq_true rfl) ?_
      refine z_istore d_Mod_meets_73 75 rfl (by decide) rfl ?_
      refine z_iload_n d_Mod_meets_75 rfl 76 rfl ?_
      refine z_iconst d_Mod_meets_76 2 (by decide) 77 rfl ?_
      refine z_irem d_Mod_meets_77 (by decide) 78 rfl ?_
      refine z_if_ne d_Mod_meets_78 96 81 (by decide) rfl (fun h5 => ?_) (fun h => absurd h (by decide))
      refine z_iload d_Mod_meets_96 rfl 98 rfl ?_
      refine z_iload d_Mod_meets_98 rfl 100 rfl ?_
      refine z_icmp_gt d_Mod_meets_100 107 103 (by decide) rfl (fun h6 => ?_) (fun h6 => ?_)
      · refine z_iconst d_Mod_meets_107 0 (by decide) 108 rfl ?_
        exact z_ireturn d_Mod_meets_108 (by simp_all [zb, mts, hvV, ← Int32.not_le]) (rfl)
      · refine z_iconst d_Mod_meets_103 1 (by decide) 104 rfl ?_
        refine z_goto d_Mod_meets_104 108 (by decide) ?_
        exact z_ireturn d_Mod_meets_108 (by simp_all [zb, mts, hvV, ← Int32.not_le]) (rfl)
    · refine z_aload_n d_Mod_meets_56 rfl 57 rfl ?_
      refine z_iload_n d_Mod_meets_57 rfl 58 rfl ?_
      refine z_iload d_Mod_meets_58 rfl 60 rfl ?_
      refine z_invv d_Mod_meets_60 63 rfl hm_Mod_rightOf lk_Mod_89 im_Mod_rightOf sl_Mod_Mod_rightOf rfl wm_45 (r_Mod_rightOf _ _ (i) (0) rfl rfl (by omega) (by omega) (hz _ (by decide))) rfl rfl (by decide) rfl rfl (Nat.le_of_ble_eq_true rfl) ?_
      refine z_goto d_Mod_meets_63 73 (by decide) ?_
      refine z_istore d_Mod_meets_73 75 rfl (by decide) rfl ?_
      refine z_iload_n d_Mod_meets_75 rfl 76 rfl ?_
      refine z_iconst d_Mod_meets_76 2 (by decide) 77 rfl ?_
      refine z_irem d_Mod_meets_77 (by decide) 78 rfl ?_
      refine z_if_ne d_Mod_meets_78 96 81 (by decide) rfl (fun h7 => ?_) (fun h => absurd h (by decide))
      refine z_iload d_Mod_meets_96 rfl 98 rfl ?_
      refine z_iload d_Mod_meets_98 rfl 100 rfl ?_
      refine z_icmp_gt d_Mod_meets_100 107 103 (by decide) rfl (fun h8 => ?_) (fun h8 => ?_)
      · refine z_iconst d_Mod_meets_107 0 (by decide) 108 rfl ?_
        exact z_ireturn d_Mod_meets_108 (by simp_all [zb, mts, hvV, ← Int32.not_le]) (rfl)
      · refine z_iconst d_Mod_meets_103 1 (by decide) 104 rfl ?_
        refine z_goto d_Mod_meets_104 108 (by decide) ?_
        exact z_ireturn d_Mod_meets_108 (by simp_all [zb, mts, hvV, ← Int32.not_le]) (rfl)
  · refine z_iconst d_Mod_meets_44 1 (by decide) 45 rfl ?_
    exact z_ireturn d_Mod_meets_45 (by simp_all [zb, mts, hvV, ← Int32.not_le]) (rfl)
set_option maxHeartbeats 400000 in
theorem r_Mod_meets_2 {K : zKK} {rf s im mt rd sc : Nat → Int32} {tl : List zC} (t l : Int32) (i j : Nat) (ht : t = nI i) (hl : l = nI j) (hi : i < 30) (hj : j < 6) (hz : ∀ w, w < 2 → ¬ 100 + s (4 + w) * s (6 + 6 * i + 4) = 0) : Ret 2 0 0 m_Mod_meets [.ref 45, .int t, .int l, .int 2] (wld K (rf, s, im, mt, rd, sc) tl) (some (.int (zb (mts s i j 2)))) (wld K (rf, s, im, mt, rd, sc) tl) := by
  subst ht
  subst hl
  refine Ret.of (n := 3) (by decide) (zb_nar _) rfl (fun X => ?_)
  refine z_aload_n d_Mod_meets_0 rfl 1 rfl ?_
  refine z_get d_Mod_meets_1 4 rfl fl_Mod_13_11 wm_45 rfl ?_
  refine z_sipush d_Mod_meets_4 186 (by decide) 7 rfl ?_
  refine z_bipush d_Mod_meets_7 8 (by decide) 9 rfl ?_
  refine z_iload_n d_Mod_meets_9 rfl 10 rfl ?_
  refine z_imul d_Mod_meets_10 11 rfl ?_
  refine z_iadd d_Mod_meets_11 12 rfl ?_
  refine z_iload_n d_Mod_meets_12 rfl 13 rfl ?_
  refine z_iadd d_Mod_meets_13 14 rfl ?_
  refine z_iaload d_Mod_meets_14 (((186 + (8 * j)) + 2)) 15 rfl wm_47 (by show ((nI 186 + (nI 8 * nI j)) + nI 2) = _; simp only [pk_mul, nI_add]) (by omega) (by decide) ?_
  refine z_istore d_Mod_meets_15 17 rfl (by decide) rfl ?_
  refine z_iload_n d_Mod_meets_17 rfl 18 rfl ?_
  refine z_iconst d_Mod_meets_18 4 (by decide) 19 rfl ?_
  refine z_icmp_ge d_Mod_meets_19 109 22 (by decide) rfl (fun h => absurd h (by decide)) (fun h1 => ?_)
  refine z_iload_n d_Mod_meets_22 rfl 23 rfl ?_
  refine z_iconst d_Mod_meets_23 2 (by decide) 24 rfl ?_
  refine z_icmp_ge d_Mod_meets_24 31 27 (by decide) rfl (fun h2 => ?_) (fun h => absurd (by decide) h)
  refine z_iconst d_Mod_meets_31 1 (by decide) 32 rfl ?_
  refine z_istore d_Mod_meets_32 34 rfl (by decide) rfl ?_
  refine z_aload_n d_Mod_meets_34 rfl 35 rfl ?_
  refine z_iload_n d_Mod_meets_35 rfl 36 rfl ?_
  refine z_iload d_Mod_meets_36 rfl 38 rfl ?_
  refine z_invv d_Mod_meets_38 41 rfl hm_Mod_get lk_Mod_66 im_Mod_get sl_Mod_Mod_get rfl wm_45 (r_Mod_get _ _ (i) (1) rfl rfl (by omega)) rfl rfl (by decide) rfl rfl (Nat.le_of_ble_eq_true rfl) ?_
  refine z_if_ge d_Mod_meets_41 46 44 (by decide) rfl (fun h3 => ?_) (fun h3 => ?_)
  · refine z_aload_n d_Mod_meets_46 rfl 47 rfl ?_
    refine z_get d_Mod_meets_47 50 rfl fl_Mod_13_11 wm_45 rfl ?_
    refine z_iconst d_Mod_meets_50 2 (by decide) 51 rfl ?_
    refine z_iaload d_Mod_meets_51 (2) 52 rfl wm_47 (rfl) (by omega) (by decide) ?_
    refine z_iconst d_Mod_meets_52 1 (by decide) 53 rfl ?_
    refine z_icmp_ne d_Mod_meets_53 66 56 (by decide) rfl (fun h4 => ?_) (fun h4 => ?_)
    · refine z_aload_n d_Mod_meets_66 rfl 67 rfl ?_
      refine z_iload_n d_Mod_meets_67 rfl 68 rfl ?_
      refine z_iload d_Mod_meets_68 rfl 70 rfl ?_
      refine z_invv d_Mod_meets_70 73 rfl hm_Mod_get lk_Mod_66 im_Mod_get sl_Mod_Mod_get rfl wm_45 (r_Mod_get _ _ (i) (1) rfl rfl (by omega)) rfl rfl (by decide) rfl rfl (Nat.le_of_ble_eq_true rfl) ?_
      refine z_istore d_Mod_meets_73 75 rfl (by decide) rfl ?_
      refine z_iload_n d_Mod_meets_75 rfl 76 rfl ?_
      refine z_iconst d_Mod_meets_76 2 (by decide) 77 rfl ?_
      refine z_irem d_Mod_meets_77 (by decide) 78 rfl ?_
      refine z_if_ne d_Mod_meets_78 96 81 (by decide) rfl (fun h => absurd (by decide) h) (fun h5 => ?_)
      refine z_iload d_Mod_meets_81 rfl 83 rfl ?_
      refine z_iload d_Mod_meets_83 rfl 85 rfl ?_
      refine z_icmp_lt d_Mod_meets_85 92 88 (by decide) rfl (fun h6 => ?_) (fun h6 => ?_)
      · refine z_iconst d_Mod_meets_92 0 (by decide) 93 rfl ?_
        refine z_goto d_Mod_meets_93 108 (by decide) ?_
        exact z_ireturn d_Mod_meets_108 (by simp_all [zb, mts, hvV, ← Int32.not_le]) (rfl)
      · refine z_iconst d_Mod_meets_88 1 (by decide) 89 rfl ?_
        refine z_goto d_Mod_meets_89 108 (by decide) ?_
        exact z_ireturn d_Mod_meets_108 (by simp_all [zb, mts, hvV, ← Int32.not_le]) (rfl)
    · refine z_aload_n d_Mod_meets_56 rfl 57 rfl ?_
      refine z_iload_n d_Mod_meets_57 rfl 58 rfl ?_
      refine z_iload d_Mod_meets_58 rfl 60 rfl ?_
      refine z_invv d_Mod_meets_60 63 rfl hm_Mod_rightOf lk_Mod_89 im_Mod_rightOf sl_Mod_Mod_rightOf rfl wm_45 (r_Mod_rightOf _ _ (i) (1) rfl rfl (by omega) (by omega) (hz _ (by decide))) rfl rfl (by decide) rfl rfl (Nat.le_of_ble_eq_true rfl) ?_
      refine z_goto d_Mod_meets_63 73 (by decide) ?_
      refine z_istore d_Mod_meets_73 75 rfl (by decide) rfl ?_
      refine z_iload_n d_Mod_meets_75 rfl 76 rfl ?_
      refine z_iconst d_Mod_meets_76 2 (by decide) 77 rfl ?_
      refine z_irem d_Mod_meets_77 (by decide) 78 rfl ?_
      refine z_if_ne d_Mod_meets_78 96 81 (by decide) rfl (fun h => absurd (by decide) h) (fun h7 => ?_)
      refine z_iload d_Mod_meets_81 rfl 83 rfl ?_
      refine z_iload d_Mod_meets_83 rfl 85 rfl ?_
      refine z_icmp_lt d_Mod_meets_85 92 88 (by decide) rfl (fun h8 => ?_) (fun h8 => ?_)
      · refine z_iconst d_Mod_meets_92 0 (by decide) 93 rfl ?_
        refine z_goto d_Mod_meets_93 108 (by decide) ?_
        exact z_ireturn d_Mod_meets_108 (by simp_all [zb, mts, hvV, ← Int32.not_le]) (rfl)
      · refine z_iconst d_Mod_meets_88 1 (by decide) 89 rfl ?_
        refine z_goto d_Mod_meets_89 108 (by decide) ?_
        exact z_ireturn d_Mod_meets_108 (by simp_all [zb, mts, hvV, ← Int32.not_le]) (rfl)
  · refine z_iconst d_Mod_meets_44 1 (by decide) 45 rfl ?_
    exact z_ireturn d_Mod_meets_45 (by simp_all [zb, mts, hvV, ← Int32.not_le]) (rfl)
set_option maxHeartbeats 400000 in
theorem r_Mod_meets_3 {K : zKK} {rf s im mt rd sc : Nat → Int32} {tl : List zC} (t l : Int32) (i j : Nat) (ht : t = nI i) (hl : l = nI j) (hi : i < 30) (hj : j < 6) (hz : ∀ w, w < 2 → ¬ 100 + s (4 + w) * s (6 + 6 * i + 4) = 0) : Ret 2 0 0 m_Mod_meets [.ref 45, .int t, .int l, .int 3] (wld K (rf, s, im, mt, rd, sc) tl) (some (.int (zb (mts s i j 3)))) (wld K (rf, s, im, mt, rd, sc) tl) := by
  subst ht
  subst hl
  refine Ret.of (n := 3) (by decide) (zb_nar _) rfl (fun X => ?_)
  refine z_aload_n d_Mod_meets_0 rfl 1 rfl ?_
  refine z_get d_Mod_meets_1 4 rfl fl_Mod_13_11 wm_45 rfl ?_
  refine z_sipush d_Mod_meets_4 186 (by decide) 7 rfl ?_
  refine z_bipush d_Mod_meets_7 8 (by decide) 9 rfl ?_
  refine z_iload_n d_Mod_meets_9 rfl 10 rfl ?_
  refine z_imul d_Mod_meets_10 11 rfl ?_
  refine z_iadd d_Mod_meets_11 12 rfl ?_
  refine z_iload_n d_Mod_meets_12 rfl 13 rfl ?_
  refine z_iadd d_Mod_meets_13 14 rfl ?_
  refine z_iaload d_Mod_meets_14 (((186 + (8 * j)) + 3)) 15 rfl wm_47 (by show ((nI 186 + (nI 8 * nI j)) + nI 3) = _; simp only [pk_mul, nI_add]) (by omega) (by decide) ?_
  refine z_istore d_Mod_meets_15 17 rfl (by decide) rfl ?_
  refine z_iload_n d_Mod_meets_17 rfl 18 rfl ?_
  refine z_iconst d_Mod_meets_18 4 (by decide) 19 rfl ?_
  refine z_icmp_ge d_Mod_meets_19 109 22 (by decide) rfl (fun h => absurd h (by decide)) (fun h1 => ?_)
  refine z_iload_n d_Mod_meets_22 rfl 23 rfl ?_
  refine z_iconst d_Mod_meets_23 2 (by decide) 24 rfl ?_
  refine z_icmp_ge d_Mod_meets_24 31 27 (by decide) rfl (fun h2 => ?_) (fun h => absurd (by decide) h)
  refine z_iconst d_Mod_meets_31 1 (by decide) 32 rfl ?_
  refine z_istore d_Mod_meets_32 34 rfl (by decide) rfl ?_
  refine z_aload_n d_Mod_meets_34 rfl 35 rfl ?_
  refine z_iload_n d_Mod_meets_35 rfl 36 rfl ?_
  refine z_iload d_Mod_meets_36 rfl 38 rfl ?_
  refine z_invv d_Mod_meets_38 41 rfl hm_Mod_get lk_Mod_66 im_Mod_get sl_Mod_Mod_get rfl wm_45 (r_Mod_get _ _ (i) (1) rfl rfl (by omega)) rfl rfl (by decide) rfl rfl (Nat.le_of_ble_eq_true rfl) ?_
  refine z_if_ge d_Mod_meets_41 46 44 (by decide) rfl (fun h3 => ?_) (fun h3 => ?_)
  · refine z_aload_n d_Mod_meets_46 rfl 47 rfl ?_
    refine z_get d_Mod_meets_47 50 rfl fl_Mod_13_11 wm_45 rfl ?_
    refine z_iconst d_Mod_meets_50 2 (by decide) 51 rfl ?_
    refine z_iaload d_Mod_meets_51 (2) 52 rfl wm_47 (rfl) (by omega) (by decide) ?_
    refine z_iconst d_Mod_meets_52 1 (by decide) 53 rfl ?_
    refine z_icmp_ne d_Mod_meets_53 66 56 (by decide) rfl (fun h4 => ?_) (fun h4 => ?_)
    · refine z_aload_n d_Mod_meets_66 rfl 67 rfl ?_
      refine z_iload_n d_Mod_meets_67 rfl 68 rfl ?_
      refine z_iload d_Mod_meets_68 rfl 70 rfl ?_
      refine z_invv d_Mod_meets_70 73 rfl hm_Mod_get lk_Mod_66 im_Mod_get sl_Mod_Mod_get rfl wm_45 (r_Mod_get _ _ (i) (1) rfl rfl (by omega)) rfl rfl (by decide) rfl rfl (Nat.le_of_ble_eq_true rfl) ?_
      refine z_istore d_Mod_meets_73 75 rfl (by decide) rfl ?_
      refine z_iload_n d_Mod_meets_75 rfl 76 rfl ?_
      refine z_iconst d_Mod_meets_76 2 (by decide) 77 rfl ?_
      refine z_irem d_Mod_meets_77 (by decide) 78 rfl ?_
      refine z_if_ne d_Mod_meets_78 96 81 (by decide) rfl (fun h5 => ?_) (fun h => absurd h (by decide))
      refine z_iload d_Mod_meets_96 rfl 98 rfl ?_
      refine z_iload d_Mod_meets_98 rfl 100 rfl ?_
      refine z_icmp_gt d_Mod_meets_100 107 103 (by decide) rfl (fun h6 => ?_) (fun h6 => ?_)
      · refine z_iconst d_Mod_meets_107 0 (by decide) 108 rfl ?_
        exact z_ireturn d_Mod_meets_108 (by simp_all [zb, mts, hvV, ← Int32.not_le]) (rfl)
      · refine z_iconst d_Mod_meets_103 1 (by decide) 104 rfl ?_
        refine z_goto d_Mod_meets_104 108 (by decide) ?_
        exact z_ireturn d_Mod_meets_108 (by simp_all [zb, mts, hvV, ← Int32.not_le]) (rfl)
    · refine z_aload_n d_Mod_meets_56 rfl 57 rfl ?_
      refine z_iload_n d_Mod_meets_57 rfl 58 rfl ?_
      refine z_iload d_Mod_meets_58 rfl 60 rfl ?_
      refine z_invv d_Mod_meets_60 63 rfl hm_Mod_rightOf lk_Mod_89 im_Mod_rightOf sl_Mod_Mod_rightOf rfl wm_45 (r_Mod_rightOf _ _ (i) (1) rfl rfl (by omega) (by omega) (hz _ (by decide))) rfl rfl (by decide) rfl rfl (Nat.le_of_ble_eq_true rfl) ?_
      refine z_goto d_Mod_meets_63 73 (by decide) ?_
      refine z_istore d_Mod_meets_73 75 rfl (by decide) rfl ?_
      refine z_iload_n d_Mod_meets_75 rfl 76 rfl ?_
      refine z_iconst d_Mod_meets_76 2 (by decide) 77 rfl ?_
      refine z_irem d_Mod_meets_77 (by decide) 78 rfl ?_
      refine z_if_ne d_Mod_meets_78 96 81 (by decide) rfl (fun h7 => ?_) (fun h => absurd h (by decide))
      refine z_iload d_Mod_meets_96 rfl 98 rfl ?_
      refine z_iload d_Mod_meets_98 rfl 100 rfl ?_
      refine z_icmp_gt d_Mod_meets_100 107 103 (by decide) rfl (fun h8 => ?_) (fun h8 => ?_)
      · refine z_iconst d_Mod_meets_107 0 (by decide) 108 rfl ?_
        exact z_ireturn d_Mod_meets_108 (by simp_all [zb, mts, hvV, ← Int32.not_le]) (rfl)
      · refine z_iconst d_Mod_meets_103 1 (by decide) 104 rfl ?_
        refine z_goto d_Mod_meets_104 108 (by decide) ?_
        exact z_ireturn d_Mod_meets_108 (by simp_all [zb, mts, hvV, ← Int32.not_le]) (rfl)
  · refine z_iconst d_Mod_meets_44 1 (by decide) 45 rfl ?_
    exact z_ireturn d_Mod_meets_45 (by simp_all [zb, mts, hvV, ← Int32.not_le]) (rfl)
set_option maxHeartbeats 400000 in
theorem r_Mod_meets_4 {K : zKK} {rf s im mt rd sc : Nat → Int32} {tl : List zC} (t l : Int32) (i j : Nat) (ht : t = nI i) (hl : l = nI j) (hi : i < 30) (hj : j < 6) (hz : ∀ w, w < 2 → ¬ 100 + s (4 + w) * s (6 + 6 * i + 4) = 0) : Ret 2 0 0 m_Mod_meets [.ref 45, .int t, .int l, .int 4] (wld K (rf, s, im, mt, rd, sc) tl) (some (.int (zb (mts s i j 4)))) (wld K (rf, s, im, mt, rd, sc) tl) := by
  subst ht
  subst hl
  refine Ret.of (n := 3) (by decide) (zb_nar _) rfl (fun X => ?_)
  refine z_aload_n d_Mod_meets_0 rfl 1 rfl ?_
  refine z_get d_Mod_meets_1 4 rfl fl_Mod_13_11 wm_45 rfl ?_
  refine z_sipush d_Mod_meets_4 186 (by decide) 7 rfl ?_
  refine z_bipush d_Mod_meets_7 8 (by decide) 9 rfl ?_
  refine z_iload_n d_Mod_meets_9 rfl 10 rfl ?_
  refine z_imul d_Mod_meets_10 11 rfl ?_
  refine z_iadd d_Mod_meets_11 12 rfl ?_
  refine z_iload_n d_Mod_meets_12 rfl 13 rfl ?_
  refine z_iadd d_Mod_meets_13 14 rfl ?_
  refine z_iaload d_Mod_meets_14 (((186 + (8 * j)) + 4)) 15 rfl wm_47 (by show ((nI 186 + (nI 8 * nI j)) + nI 4) = _; simp only [pk_mul, nI_add]) (by omega) (by decide) ?_
  refine z_istore d_Mod_meets_15 17 rfl (by decide) rfl ?_
  refine z_iload_n d_Mod_meets_17 rfl 18 rfl ?_
  refine z_iconst d_Mod_meets_18 4 (by decide) 19 rfl ?_
  refine z_icmp_ge d_Mod_meets_19 109 22 (by decide) rfl (fun h1 => ?_) (fun h => absurd (by decide) h)
  refine z_iload_n d_Mod_meets_109 rfl 110 rfl ?_
  refine z_iconst d_Mod_meets_110 4 (by decide) 111 rfl ?_
  refine z_icmp_ne d_Mod_meets_111 144 114 (by decide) rfl (fun h => absurd (by decide) h) (fun h2 => ?_)
  refine z_aload_n d_Mod_meets_114 rfl 115 rfl ?_
  refine z_iload_n d_Mod_meets_115 rfl 116 rfl ?_
  refine z_iconst d_Mod_meets_116 2 (by decide) 117 rfl ?_
  refine z_invv d_Mod_meets_117 120 rfl hm_Mod_get lk_Mod_66 im_Mod_get sl_Mod_Mod_get rfl wm_45 (r_Mod_get _ _ (i) (2) rfl rfl (by omega)) rfl rfl (by decide) rfl rfl (Nat.le_of_ble_eq_true rfl) ?_
  refine z_if_lt d_Mod_meets_120 138 123 (by decide) rfl (fun h3 => ?_) (fun h3 => ?_)
  · refine z_iconst d_Mod_meets_138 1 (by decide) 139 rfl ?_
    refine z_goto d_Mod_meets_139 143 (by decide) ?_
    exact z_ireturn d_Mod_meets_143 (by simp_all [zb, mts, hvV, ← Int32.not_le]) (rfl)
  · refine z_iload d_Mod_meets_123 rfl 125 rfl ?_
    refine z_aload_n d_Mod_meets_125 rfl 126 rfl ?_
    refine z_iload_n d_Mod_meets_126 rfl 127 rfl ?_
    refine z_iconst d_Mod_meets_127 2 (by decide) 128 rfl ?_
    refine z_invv d_Mod_meets_128 131 rfl hm_Mod_get lk_Mod_66 im_Mod_get sl_Mod_Mod_get rfl wm_45 (r_Mod_get _ _ (i) (2) rfl rfl (by omega)) rfl rfl (by decide) rfl rfl (Nat.le_of_ble_eq_true rfl) ?_
    refine z_ishr d_Mod_meets_131 132 rfl ?_
    refine z_iconst d_Mod_meets_132 1 (by decide) 133 rfl ?_
    refine z_iand d_Mod_meets_133 134 rfl ?_
    refine z_iconst d_Mod_meets_134 1 (by decide) 135 rfl ?_
    refine z_icmp_ne d_Mod_meets_135 142 138 (by decide) rfl (fun h4 => ?_) (fun h4 => ?_)
    · refine z_iconst d_Mod_meets_142 0 (by decide) 143 rfl ?_
      exact z_ireturn d_Mod_meets_143 (by simp_all [zb, mts, hvV, ← Int32.not_le]) (rfl)
    · refine z_iconst d_Mod_meets_138 1 (by decide) 139 rfl ?_
      refine z_goto d_Mod_meets_139 143 (by decide) ?_
      exact z_ireturn d_Mod_meets_143 (by simp_all [zb, mts, hvV, ← Int32.not_le]) (rfl)
set_option maxHeartbeats 400000 in
theorem r_Mod_meets_5 {K : zKK} {rf s im mt rd sc : Nat → Int32} {tl : List zC} (t l : Int32) (i j : Nat) (ht : t = nI i) (hl : l = nI j) (hi : i < 30) (hj : j < 6) (hz : ∀ w, w < 2 → ¬ 100 + s (4 + w) * s (6 + 6 * i + 4) = 0) : Ret 2 0 0 m_Mod_meets [.ref 45, .int t, .int l, .int 5] (wld K (rf, s, im, mt, rd, sc) tl) (some (.int (zb (mts s i j 5)))) (wld K (rf, s, im, mt, rd, sc) tl) := by
  subst ht
  subst hl
  refine Ret.of (n := 3) (by decide) (zb_nar _) rfl (fun X => ?_)
  refine z_aload_n d_Mod_meets_0 rfl 1 rfl ?_
  refine z_get d_Mod_meets_1 4 rfl fl_Mod_13_11 wm_45 rfl ?_
  refine z_sipush d_Mod_meets_4 186 (by decide) 7 rfl ?_
  refine z_bipush d_Mod_meets_7 8 (by decide) 9 rfl ?_
  refine z_iload_n d_Mod_meets_9 rfl 10 rfl ?_
  refine z_imul d_Mod_meets_10 11 rfl ?_
  refine z_iadd d_Mod_meets_11 12 rfl ?_
  refine z_iload_n d_Mod_meets_12 rfl 13 rfl ?_
  refine z_iadd d_Mod_meets_13 14 rfl ?_
  refine z_iaload d_Mod_meets_14 (((186 + (8 * j)) + 5)) 15 rfl wm_47 (by show ((nI 186 + (nI 8 * nI j)) + nI 5) = _; simp only [pk_mul, nI_add]) (by omega) (by decide) ?_
  refine z_istore d_Mod_meets_15 17 rfl (by decide) rfl ?_
  refine z_iload_n d_Mod_meets_17 rfl 18 rfl ?_
  refine z_iconst d_Mod_meets_18 4 (by decide) 19 rfl ?_
  refine z_icmp_ge d_Mod_meets_19 109 22 (by decide) rfl (fun h1 => ?_) (fun h => absurd (by decide) h)
  refine z_iload_n d_Mod_meets_109 rfl 110 rfl ?_
  refine z_iconst d_Mod_meets_110 4 (by decide) 111 rfl ?_
  refine z_icmp_ne d_Mod_meets_111 144 114 (by decide) rfl (fun h2 => ?_) (fun h => absurd h (by decide))
  refine z_iload_n d_Mod_meets_144 rfl 145 rfl ?_
  refine z_iconst d_Mod_meets_145 5 (by decide) 146 rfl ?_
  refine z_icmp_ne d_Mod_meets_146 171 149 (by decide) rfl (fun h => absurd (by decide) h) (fun h3 => ?_)
  refine z_iload d_Mod_meets_149 rfl 151 rfl ?_
  refine z_aload_n d_Mod_meets_151 rfl 152 rfl ?_
  refine z_iload_n d_Mod_meets_152 rfl 153 rfl ?_
  refine z_iconst d_Mod_meets_153 3 (by decide) 154 rfl ?_
  refine z_invv d_Mod_meets_154 157 rfl hm_Mod_get lk_Mod_66 im_Mod_get sl_Mod_Mod_get rfl wm_45 (r_Mod_get _ _ (i) (3) rfl rfl (by omega)) rfl rfl (by decide) rfl rfl (Nat.le_of_ble_eq_true rfl) ?_
  refine z_iconst d_Mod_meets_157 (-1) (by decide) 158 rfl ?_
  refine z_ixor d_Mod_meets_158 159 rfl ?_
  refine z_iand d_Mod_meets_159 160 rfl ?_
  refine z_if_ne d_Mod_meets_160 167 163 (by decide) rfl (fun h4 => ?_) (fun h4 => ?_)
  · refine z_iconst d_Mod_meets_167 0 (by decide) 168 rfl ?_
    refine z_goto d_Mod_meets_168 188 (by decide) ?_
    exact z_ireturn d_Mod_meets_188 (by simp_all [zb, mts, hvV, ← Int32.not_le]) (rfl)
  · refine z_iconst d_Mod_meets_163 1 (by decide) 164 rfl ?_
    refine z_goto d_Mod_meets_164 188 (by decide) ?_
    exact z_ireturn d_Mod_meets_188 (by simp_all [zb, mts, hvV, ← Int32.not_le]) (rfl)
set_option maxHeartbeats 400000 in
theorem r_Mod_meets_6 {K : zKK} {rf s im mt rd sc : Nat → Int32} {tl : List zC} (t l : Int32) (i j : Nat) (ht : t = nI i) (hl : l = nI j) (hi : i < 30) (hj : j < 6) (hz : ∀ w, w < 2 → ¬ 100 + s (4 + w) * s (6 + 6 * i + 4) = 0) : Ret 2 0 0 m_Mod_meets [.ref 45, .int t, .int l, .int 6] (wld K (rf, s, im, mt, rd, sc) tl) (some (.int (zb (mts s i j 6)))) (wld K (rf, s, im, mt, rd, sc) tl) := by
  subst ht
  subst hl
  refine Ret.of (n := 3) (by decide) (zb_nar _) rfl (fun X => ?_)
  refine z_aload_n d_Mod_meets_0 rfl 1 rfl ?_
  refine z_get d_Mod_meets_1 4 rfl fl_Mod_13_11 wm_45 rfl ?_
  refine z_sipush d_Mod_meets_4 186 (by decide) 7 rfl ?_
  refine z_bipush d_Mod_meets_7 8 (by decide) 9 rfl ?_
  refine z_iload_n d_Mod_meets_9 rfl 10 rfl ?_
  refine z_imul d_Mod_meets_10 11 rfl ?_
  refine z_iadd d_Mod_meets_11 12 rfl ?_
  refine z_iload_n d_Mod_meets_12 rfl 13 rfl ?_
  refine z_iadd d_Mod_meets_13 14 rfl ?_
  refine z_iaload d_Mod_meets_14 (((186 + (8 * j)) + 6)) 15 rfl wm_47 (by show ((nI 186 + (nI 8 * nI j)) + nI 6) = _; simp only [pk_mul, nI_add]) (by omega) (by decide) ?_
  refine z_istore d_Mod_meets_15 17 rfl (by decide) rfl ?_
  refine z_iload_n d_Mod_meets_17 rfl 18 rfl ?_
  refine z_iconst d_Mod_meets_18 4 (by decide) 19 rfl ?_
  refine z_icmp_ge d_Mod_meets_19 109 22 (by decide) rfl (fun h1 => ?_) (fun h => absurd (by decide) h)
  refine z_iload_n d_Mod_meets_109 rfl 110 rfl ?_
  refine z_iconst d_Mod_meets_110 4 (by decide) 111 rfl ?_
  refine z_icmp_ne d_Mod_meets_111 144 114 (by decide) rfl (fun h2 => ?_) (fun h => absurd h (by decide))
  refine z_iload_n d_Mod_meets_144 rfl 145 rfl ?_
  refine z_iconst d_Mod_meets_145 5 (by decide) 146 rfl ?_
  refine z_icmp_ne d_Mod_meets_146 171 149 (by decide) rfl (fun h3 => ?_) (fun h => absurd h (by decide))
  refine z_iload d_Mod_meets_171 rfl 173 rfl ?_
  refine z_aload_n d_Mod_meets_173 rfl 174 rfl ?_
  refine z_iload_n d_Mod_meets_174 rfl 175 rfl ?_
  refine z_iconst d_Mod_meets_175 3 (by decide) 176 rfl ?_
  refine z_invv d_Mod_meets_176 179 rfl hm_Mod_get lk_Mod_66 im_Mod_get sl_Mod_Mod_get rfl wm_45 (r_Mod_get _ _ (i) (3) rfl rfl (by omega)) rfl rfl (by decide) rfl rfl (Nat.le_of_ble_eq_true rfl) ?_
  refine z_iand d_Mod_meets_179 180 rfl ?_
  refine z_if_ne d_Mod_meets_180 187 183 (by decide) rfl (fun h4 => ?_) (fun h4 => ?_)
  · refine z_iconst d_Mod_meets_187 0 (by decide) 188 rfl ?_
    exact z_ireturn d_Mod_meets_188 (by simp_all [zb, mts, hvV, ← Int32.not_le]) (rfl)
  · refine z_iconst d_Mod_meets_183 1 (by decide) 184 rfl ?_
    refine z_goto d_Mod_meets_184 188 (by decide) ?_
    exact z_ireturn d_Mod_meets_188 (by simp_all [zb, mts, hvV, ← Int32.not_le]) (rfl)
theorem r_Mod_meets {K : zKK} {rf s im mt rd sc : Nat → Int32} {tl : List zC} (t l k0 : Int32) (i j k : Nat) (ht : t = nI i) (hl : l = nI j) (hk0 : k0 = nI k) (hi : i < 30) (hj : j < 6) (hk : k < 7) (hz : ∀ w, w < 2 → ¬ 100 + s (4 + w) * s (6 + 6 * i + 4) = 0) : Ret 2 0 0 m_Mod_meets [.ref 45, .int t, .int l, .int k0] (wld K (rf, s, im, mt, rd, sc) tl) (some (.int (zb (mts s i j k)))) (wld K (rf, s, im, mt, rd, sc) tl) := by
  subst hk0
  rcases (show k = 0 ∨ k = 1 ∨ k = 2 ∨ k = 3 ∨ k = 4 ∨ k = 5 ∨ k = 6 by omega) with rfl | rfl | rfl | rfl | rfl | rfl | rfl
  · exact r_Mod_meets_0 t l i j ht hl hi hj hz
  · exact r_Mod_meets_1 t l i j ht hl hi hj hz
  · exact r_Mod_meets_2 t l i j ht hl hi hj hz
  · exact r_Mod_meets_3 t l i j ht hl hi hj hz
  · exact r_Mod_meets_4 t l i j ht hl hi hj hz
  · exact r_Mod_meets_5 t l i j ht hl hi hj hz
  · exact r_Mod_meets_6 t l i j ht hl hi hj hz
set_option maxHeartbeats 400000 in
theorem r_Mod_isFit {K : zKK} {rf s im mt rd sc : Nat → Int32} {tl : List zC} (t l w : Int32) (i j : Nat) (ht : t = nI i) (hl : l = nI j) (hi : i < 30) (hj : j < 6) (hz : ∀ w, w < 2 → ¬ 100 + s (4 + w) * s (6 + 6 * i + 4) = 0) : Ret 3 0 0 m_Mod_isFit [.ref 45, .int t, .int l, .int w] (wld K (rf, s, im, mt, rd, sc) tl) (some (.int (zb (fit s i j w)))) (wld K (rf, s, im, mt, rd, sc) tl) := by
  subst ht
  subst hl
  refine Ret.of (n := 1) (by decide) (zb_nar _) rfl (fun X => ?_)
  refine z_iconst d_Mod_isFit_0 0 (by decide) 1 rfl ?_
  refine z_istore d_Mod_isFit_1 3 rfl (by decide) rfl ?_
  refine zloop (fun k => (∀ q, q < k → (w >>> (nI q &&& 31)) &&& 1 = 0 → mts s i j q = true) → Z X m_Mod_isFit 3 0 0 (some (.int (zb (fit s i j w)))) (wld K (rf, s, im, mt, rd, sc) tl) 3 [some (.ref 45), some (.int (nI i)), some (.int (nI j)), some (.int w), some (.int (nI k))] [] (wld K (rf, s, im, mt, rd, sc) tl)) (7) ?_ ?_ 0 (Nat.zero_le _) (fun q h => absurd h (Nat.not_lt_zero q))
  · intro hinv
    refine z_iload d_Mod_isFit_3 rfl 5 rfl ?_
    refine z_bipush d_Mod_isFit_5 7 (by decide) 7 rfl ?_
    refine z_icmp_ge d_Mod_isFit_7 38 10 (by decide) rfl (fun h1 => ?_) (fun h => absurd (by decide) h)
    refine z_iconst d_Mod_isFit_38 1 (by decide) 39 rfl ?_
    exact z_ireturn d_Mod_isFit_39 (by rw [show fit s i j w = true from fit_iff.mpr (fun q hq hb => hinv q hq hb)]; rfl) (rfl)
  · intro k hk ih hinv
    refine z_iload d_Mod_isFit_3 rfl 5 rfl ?_
    refine z_bipush d_Mod_isFit_5 7 (by decide) 7 rfl ?_
    refine z_icmp_ge d_Mod_isFit_7 38 10 (by decide) rfl (fun h => absurd h (show ¬ nI 7 ≤ nI k from nI_ge hk (by decide))) (fun h2 => ?_)
    refine z_iload_n d_Mod_isFit_10 rfl 11 rfl ?_
    refine z_iload d_Mod_isFit_11 rfl 13 rfl ?_
    refine z_ishr d_Mod_isFit_13 14 rfl ?_
    refine z_iconst d_Mod_isFit_14 1 (by decide) 15 rfl ?_
    refine z_iand d_Mod_isFit_15 16 rfl ?_
    refine z_if_ne d_Mod_isFit_16 32 19 (by decide) rfl (fun h3 => ?_) (fun h3 => ?_)
    · refine z_iinc d_Mod_isFit_32 1 (by decide) 35 rfl rfl (by decide) rfl ?_
      refine z_goto d_Mod_isFit_35 3 (by decide) ?_
      exact z_L _ (by simp [nI_succ]) (ih (fun q hq hb => by
        rcases Nat.lt_or_ge q k with h | h
        · exact hinv q h hb
        · have : q = k := by omega
          subst this
          first | exact absurd hb (by assumption) | (simp_all [zb_ne]; done)))
    · refine z_aload_n d_Mod_isFit_19 rfl 20 rfl ?_
      refine z_iload_n d_Mod_isFit_20 rfl 21 rfl ?_
      refine z_iload_n d_Mod_isFit_21 rfl 22 rfl ?_
      refine z_iload d_Mod_isFit_22 rfl 24 rfl ?_
      refine z_invv d_Mod_isFit_24 27 rfl hm_Mod_meets lk_Mod_92 im_Mod_meets sl_Mod_Mod_meets rfl wm_45 (r_Mod_meets _ _ _ (i) (j) (k) rfl rfl rfl (by omega) (by omega) (by omega) hz) rfl rfl (by decide) rfl rfl (Nat.le_of_ble_eq_true rfl) ?_
      refine z_if_ne d_Mod_isFit_27 32 30 (by decide) rfl (fun h4 => ?_) (fun h4 => ?_)
      · refine z_iinc d_Mod_isFit_32 1 (by decide) 35 rfl rfl (by decide) rfl ?_
        refine z_goto d_Mod_isFit_35 3 (by decide) ?_
        exact z_L _ (by simp [nI_succ]) (ih (fun q hq hb => by
          rcases Nat.lt_or_ge q k with h | h
          · exact hinv q h hb
          · have : q = k := by omega
            subst this
            first | exact absurd hb (by assumption) | (simp_all [zb_ne]; done)))
      · refine z_iconst d_Mod_isFit_30 0 (by decide) 31 rfl ?_
        exact z_ireturn d_Mod_isFit_31 (by rw [show fit s i j w = false from fit_no (fun h => by have := h k hk (by simp_all); simp_all [zb_eq, zb_ne])]; rfl) (rfl)
set_option maxHeartbeats 400000 in
theorem r_Mod_lawsOf {K : zKK} {rf s im mt rd sc : Nat → Int32} {tl : List zC} (t : Int32) (i : Nat) (ht : t = nI i) (hi : i < 30) (hz : ∀ w, w < 2 → ¬ 100 + s (4 + w) * s (6 + 6 * i + 4) = 0) : Ret 4 0 0 m_Mod_lawsOf [.ref 45, .int t] (wld K (rf, s, im, mt, rd, sc) tl) (some (.int (lwTo s i 6))) (wld K (rf, s, im, mt, rd, sc) tl) := by
  subst ht
  refine Ret.of (n := 2) (by decide) (rfl) rfl (fun X => ?_)
  refine z_iconst d_Mod_lawsOf_0 0 (by decide) 1 rfl ?_
  refine z_istore_n d_Mod_lawsOf_1 2 rfl (by decide) rfl ?_
  refine z_iconst d_Mod_lawsOf_2 0 (by decide) 3 rfl ?_
  refine z_istore_n d_Mod_lawsOf_3 4 rfl (by decide) rfl ?_
  refine zloop (fun l => Z X m_Mod_lawsOf 4 0 0 (some (.int (lwTo s i 6))) (wld K (rf, s, im, mt, rd, sc) tl) 4 [some (.ref 45), some (.int (nI i)), some (.int (lwTo s i l)), some (.int (nI l))] [] (wld K (rf, s, im, mt, rd, sc) tl)) (6) ?_ ?_ 0 (Nat.zero_le _)
  · refine z_iload_n d_Mod_lawsOf_4 rfl 5 rfl ?_
    refine z_bipush d_Mod_lawsOf_5 6 (by decide) 7 rfl ?_
    refine z_icmp_ge d_Mod_lawsOf_7 36 10 (by decide) rfl (fun h1 => ?_) (fun h => absurd (by decide) h)
    refine z_iload_n d_Mod_lawsOf_36 rfl 37 rfl ?_
    exact z_ireturn d_Mod_lawsOf_37 (rfl) (rfl)
  · intro l hl ih
    refine z_iload_n d_Mod_lawsOf_4 rfl 5 rfl ?_
    refine z_bipush d_Mod_lawsOf_5 6 (by decide) 7 rfl ?_
    refine z_icmp_ge d_Mod_lawsOf_7 36 10 (by decide) rfl (fun h => absurd h (show ¬ nI 6 ≤ nI l from nI_ge hl (by decide))) (fun h2 => ?_)
    refine z_iload_n d_Mod_lawsOf_10 rfl 11 rfl ?_
    refine z_aload_n d_Mod_lawsOf_11 rfl 12 rfl ?_
    refine z_iload_n d_Mod_lawsOf_12 rfl 13 rfl ?_
    refine z_iload_n d_Mod_lawsOf_13 rfl 14 rfl ?_
    refine z_iconst d_Mod_lawsOf_14 0 (by decide) 15 rfl ?_
    refine z_invv d_Mod_lawsOf_15 18 rfl hm_Mod_isFit lk_Mod_96 im_Mod_isFit sl_Mod_Mod_isFit rfl wm_45 (r_Mod_isFit _ _ _ (i) (l) rfl rfl (by omega) (by omega) hz) rfl rfl (by decide) rfl rfl (Nat.le_of_ble_eq_true rfl) ?_
    refine z_if_eq d_Mod_lawsOf_18 27 21 (by decide) rfl (fun h3 => ?_) (fun h3 => ?_)
    · refine z_iconst d_Mod_lawsOf_27 0 (by decide) 28 rfl ?_
      refine z_ior d_Mod_lawsOf_28 29 rfl ?_
      refine z_istore_n d_Mod_lawsOf_29 30 rfl (by decide) rfl ?_
      refine z_iinc d_Mod_lawsOf_30 1 (by decide) 33 rfl rfl (by decide) rfl ?_
      refine z_goto d_Mod_lawsOf_33 4 (by decide) ?_
      exact z_L _ (by simp_all [nI_succ, lwTo, zb_eq, zb_ne]) ih
    · refine z_iconst d_Mod_lawsOf_21 1 (by decide) 22 rfl ?_
      refine z_iload_n d_Mod_lawsOf_22 rfl 23 rfl ?_
      refine z_ishl d_Mod_lawsOf_23 24 rfl ?_
      refine z_goto d_Mod_lawsOf_24 28 (by decide) ?_
      refine z_ior d_Mod_lawsOf_28 29 rfl ?_
      refine z_istore_n d_Mod_lawsOf_29 30 rfl (by decide) rfl ?_
      refine z_iinc d_Mod_lawsOf_30 1 (by decide) 33 rfl rfl (by decide) rfl ?_
      refine z_goto d_Mod_lawsOf_33 4 (by decide) ?_
      exact z_L _ (by simp_all [nI_succ, lwTo, zb_eq, zb_ne]) ih
