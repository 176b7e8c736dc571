/-! reading THE TAPE -/
theorem uu (f : Nat → Int32) (k : Nat) (a b : Int32) : upd (upd f k a) k b = upd f k b := by
  funext j; unfold upd; by_cases h : j = k <;> simp [h]
def sg (mt : Nat → Int32) (p q : Nat) : Int32 := if q < p then mt q else -1
def dg (mt : Nat → Int32) (p q : Nat) : Bool := decide (48 ≤ sg mt p q) && decide (sg mt p q ≤ 57)
def rnm (mt : Nat → Int32) (p : Nat) : Nat → Nat → Int32 → Nat × Int32
  | 0, q, a => (q, a)
  | f + 1, q, a => if dg mt p q = true then rnm mt p f (q + 1) (10 * a + sg mt p q - 48) else (q, a)
def mkO (c : Int32) : Int32 := if c = 98 then 0 else if c = 104 then 1 else if c = 117 then 2 else if c = 119 then 3 else if c = 110 then 4 else if c = 109 then 5 else if c = 111 then 6 else if c = 112 then 7 else -9
def f5 (mt : Nat → Int32) (p q : Nat) (rd : Nat → Int32) : Bool × Nat × (Nat → Int32) :=
  if sg mt p q = 64 then (if dg mt p (q + 1) = true then
    (if sg mt p (rnm mt p 2 (q + 1) 0).1 = 63 then (decide ((rnm mt p 2 (q + 1) 0).1 + 1 = p), (rnm mt p 2 (q + 1) 0).1 + 1, upd (upd rd 4 (rnm mt p 2 (q + 1) 0).2) 5 1)
     else (decide ((rnm mt p 2 (q + 1) 0).1 = p), (rnm mt p 2 (q + 1) 0).1, upd (upd rd 4 (rnm mt p 2 (q + 1) 0).2) 5 0))
    else (false, q + 1, rd)) else (false, q, rd)
def f4 (mt : Nat → Int32) (p : Nat) : Nat → Int32 → Nat → (Nat → Int32) → Bool × Nat × (Nat → Int32)
  | 0, _, q, rd => f5 mt p q rd
  | f + 1, la, q, rd => if mkO (sg mt p q) ≤ la then f5 mt p q rd else f4 mt p f (mkO (sg mt p q)) (q + 1) (upd rd 3 (rd 3 ||| 1 <<< (mkO (sg mt p q) &&& 31)))
def f3 (mt : Nat → Int32) (p q : Nat) (rd : Nat → Int32) : Bool × Nat × (Nat → Int32) :=
  if sg mt p q = 99 then (if 48 ≤ sg mt p (q + 1) then (if sg mt p (q + 1) ≤ 55 then f4 mt p 9 (-1) (q + 2) (upd rd 2 (sg mt p (q + 1) - 48)) else (false, q + 1, rd)) else (false, q + 1, rd)) else f4 mt p 9 (-1) q rd
def f2 (mt : Nat → Int32) (p q : Nat) (rd : Nat → Int32) : Bool × Nat × (Nat → Int32) :=
  if sg mt p q = 116 then (if dg mt p (q + 1) = true then f3 mt p (rnm mt p 3 (q + 1) 0).1 (upd rd 1 (rnm mt p 3 (q + 1) 0).2) else (false, q + 1, rd)) else f3 mt p q rd
def f1 (mt : Nat → Int32) (p q : Nat) (rd : Nat → Int32) : Bool × Nat × (Nat → Int32) :=
  if sg mt p q = 115 then (if dg mt p (q + 1) = true then f2 mt p (rnm mt p 3 (q + 1) 0).1 (upd rd 0 (rnm mt p 3 (q + 1) 0).2) else (false, q + 1, rd)) else f2 mt p q rd
def rd0 (rd : Nat → Int32) : Nat → Int32 := fun j => if j < 3 then -9 else if j < 6 then 0 else rd j
theorem sg_lt {mt : Nat → Int32} {p q : Nat} (h : ¬ sg mt p q = -1) : q < p := by
  unfold sg at h
  by_cases g : q < p
  · exact g
  · rw [if_neg g] at h; exact absurd rfl h
theorem dg_lt {mt : Nat → Int32} {p q : Nat} (h : dg mt p q = true) : q < p := by
  refine sg_lt (mt := mt) (fun e => ?_)
  unfold dg at h
  rw [e] at h
  exact absurd h (by decide)
theorem rnm_le {mt : Nat → Int32} {p : Nat} : ∀ (f q : Nat) (a : Int32), q ≤ p → q ≤ (rnm mt p f q a).1 ∧ (rnm mt p f q a).1 ≤ p
  | 0, q, a, h => ⟨Nat.le_refl _, h⟩
  | f + 1, q, a, h => by
    simp only [rnm]
    split
    · rename_i hd
      have := rnm_le (mt := mt) (p := p) f (q + 1) (10 * a + sg mt p q - 48) (dg_lt hd)
      omega
    · exact ⟨Nat.le_refl _, h⟩
set_option maxHeartbeats 400000 in
theorem r_Mod_sign {K : zKK} {rf s im mt rd sc : Nat → Int32} {tl : List zC} {p q : Nat} (hp : p ≤ 24) (hq : q ≤ p) (hsc : sc 1 = nI p) : Ret 0 0 0 m_Mod_sign [.ref 45] (wld K (rf, s, im, mt, rd, upd sc 2 (nI (q))) tl) (some (.int (sg mt p q))) (wld K (rf, s, im, mt, rd, upd sc 2 (nI (q))) tl) := by
  refine Ret.of (n := 0) (by decide) (rfl) rfl (fun X => ?_)
  refine z_aload_n d_Mod_sign_0 rfl 1 rfl ?_
  refine z_get d_Mod_sign_1 4 rfl fl_Mod_39_11 wm_45 rfl ?_
  refine z_top (.int (nI (q))) (by first | rfl | exact congrArg Value.int hsc) ?_
  refine z_aload_n d_Mod_sign_4 rfl 5 rfl ?_
  refine z_get d_Mod_sign_5 8 rfl fl_Mod_33_11 wm_45 rfl ?_
  refine z_top (.int (nI (p))) (by first | rfl | exact congrArg Value.int hsc) ?_
  refine z_icmp_lt d_Mod_sign_8 15 11 (by decide) rfl (fun h1 => ?_) (fun h1 => ?_)
  · have hl : q < p := (nI_ltI (by omega) (by omega)).mp h1
    refine z_aload_n d_Mod_sign_15 rfl 16 rfl ?_
    refine z_get d_Mod_sign_16 19 rfl fl_Mod_19_11 wm_45 rfl ?_
    refine z_aload_n d_Mod_sign_19 rfl 20 rfl ?_
    refine z_get d_Mod_sign_20 23 rfl fl_Mod_39_11 wm_45 rfl ?_
    refine z_top (.int (nI (q))) (by first | rfl | exact congrArg Value.int hsc) ?_
    refine z_iaload d_Mod_sign_23 (q) 24 rfl wm_49 (rfl) (by omega) (by decide) ?_
    exact z_ireturn d_Mod_sign_24 (by simp [sg, hl]) (rfl)
  · have hl : ¬ q < p := fun z => h1 ((nI_ltI (by omega) (by omega)).mpr z)
    refine z_iconst d_Mod_sign_11 (-1) (by decide) 12 rfl ?_
    refine z_goto d_Mod_sign_12 24 (by decide) ?_
    exact z_ireturn d_Mod_sign_24 (by simp [sg, hl]) (rfl)
set_option maxHeartbeats 400000 in
theorem r_Mod_isDigit {K : zKK} {rf s im mt rd sc : Nat → Int32} {tl : List zC} {p q : Nat} (hp : p ≤ 24) (hq : q ≤ p) (hsc : sc 1 = nI p) : Ret 1 0 0 m_Mod_isDigit [.ref 45] (wld K (rf, s, im, mt, rd, upd sc 2 (nI (q))) tl) (some (.int (zb (dg mt p q)))) (wld K (rf, s, im, mt, rd, upd sc 2 (nI (q))) tl) := by
  refine Ret.of (n := 0) (by decide) (zb_nar _) rfl (fun X => ?_)
  refine z_aload_n d_Mod_isDigit_0 rfl 1 rfl ?_
  refine z_invv d_Mod_isDigit_1 4 rfl hm_Mod_sign lk_Mod_42 im_Mod_sign sl_Mod_Mod_sign rfl wm_45 (r_Mod_sign hp hq hsc) rfl rfl (by decide) rfl rfl (Nat.le_of_ble_eq_true rfl) ?_
  refine z_bipush d_Mod_isDigit_4 48 (by decide) 6 rfl ?_
  refine z_icmp_lt d_Mod_isDigit_6 22 9 (by decide) rfl (fun h1 => ?_) (fun h1 => ?_)
  · refine z_iconst d_Mod_isDigit_22 0 (by decide) 23 rfl ?_
    exact z_ireturn d_Mod_isDigit_23 (by simp_all [zb, dg, ← Int32.not_le]) (rfl)
  · refine z_aload_n d_Mod_isDigit_9 rfl 10 rfl ?_
    refine z_invv d_Mod_isDigit_10 13 rfl hm_Mod_sign lk_Mod_42 im_Mod_sign sl_Mod_Mod_sign rfl wm_45 (r_Mod_sign hp hq hsc) rfl rfl (by decide) rfl rfl (Nat.le_of_ble_eq_true rfl) ?_
    refine z_bipush d_Mod_isDigit_13 57 (by decide) 15 rfl ?_
    refine z_icmp_gt d_Mod_isDigit_15 22 18 (by decide) rfl (fun h2 => ?_) (fun h2 => ?_)
    · refine z_iconst d_Mod_isDigit_22 0 (by decide) 23 rfl ?_
      exact z_ireturn d_Mod_isDigit_23 (by simp_all [zb, dg, ← Int32.not_le]) (rfl)
    · refine z_iconst d_Mod_isDigit_18 1 (by decide) 19 rfl ?_
      refine z_goto d_Mod_isDigit_19 23 (by decide) ?_
      exact z_ireturn d_Mod_isDigit_23 (by simp_all [zb, dg, ← Int32.not_le]) (rfl)
set_option maxHeartbeats 400000 in
theorem r_Mod_takes {K : zKK} {rf s im mt rd sc : Nat → Int32} {tl : List zC} {p q : Nat} (hp : p ≤ 24) (hq : q ≤ p) (hsc : sc 1 = nI p) (c : Int32) : Ret 1 0 0 m_Mod_takes [.ref 45, .int c] (wld K (rf, s, im, mt, rd, upd sc 2 (nI (q))) tl) (some (.int (zb (decide (sg mt p q = c))))) (wld K (rf, s, im, mt, rd, upd sc 2 (nI (if sg mt p q = c then q + 1 else q))) tl) := by
  refine Ret.of (n := 0) (by decide) (zb_nar _) rfl (fun X => ?_)
  refine z_aload_n d_Mod_takes_0 rfl 1 rfl ?_
  refine z_invv d_Mod_takes_1 4 rfl hm_Mod_sign lk_Mod_42 im_Mod_sign sl_Mod_Mod_sign rfl wm_45 (r_Mod_sign hp hq hsc) rfl rfl (by decide) rfl rfl (Nat.le_of_ble_eq_true rfl) ?_
  refine z_iload_n d_Mod_takes_4 rfl 5 rfl ?_
  refine z_icmp_eq d_Mod_takes_5 10 8 (by decide) rfl (fun h1 => ?_) (fun h1 => ?_)
  · refine z_aload_n d_Mod_takes_10 rfl 11 rfl ?_
    refine z_dup d_Mod_takes_11 rfl 12 rfl ?_
    refine z_get d_Mod_takes_12 15 rfl fl_Mod_39_11 wm_45 rfl ?_
    refine z_top (.int (nI (q))) (by first | rfl | exact congrArg Value.int hsc) ?_
    refine z_iconst d_Mod_takes_15 1 (by decide) 16 rfl ?_
    refine z_iadd d_Mod_takes_16 17 rfl ?_
    refine z_putI d_Mod_takes_17 20 rfl fp_Mod_39_11 (Or.inl rfl) wm_45 (by simp) ?_
    refine z_hp (wp_45_7.trans (by rw [uu, show nI q + 1 = nI (q + 1) from nI_1 q])) ?_
    refine z_iconst d_Mod_takes_20 1 (by decide) 21 rfl ?_
    exact z_ireturn d_Mod_takes_21 (by simp [zb, *]) (by simp [*])
  · refine z_iconst d_Mod_takes_8 0 (by decide) 9 rfl ?_
    exact z_ireturn d_Mod_takes_9 (by simp [zb, *]) (by simp [*])
theorem l_Mod_readsNumber {X : zS} {K : zKK} {rf s im mt rd sc : Nat → Int32} {tl : List zC} {p k m : Nat} (hp : p ≤ 24) (hsc : sc 1 = nI p) (hk : k < 6) (hm : m ≤ 3) : ∀ (f i q : Nat) (a : Int32), i + f = m → q ≤ p → Z X m_Mod_readsNumber 2 0 0 (some (.int 1)) (wld K (rf, s, im, mt, upd rd k (rnm mt p f q a).2, upd sc 2 (nI ((rnm mt p f q a).1))) tl) 18 [some (.ref 45), some (.int (nI k)), some (.int (nI m)), some (.int (nI i))] [] (wld K (rf, s, im, mt, upd rd k a, upd sc 2 (nI (q))) tl) := by
  intro f
  induction f with
  | zero =>
    intro i q a hi hq
    have : i = m := by omega
    subst this
    refine z_iload_n d_Mod_readsNumber_18 rfl 19 rfl ?_
    refine z_iload_n d_Mod_readsNumber_19 rfl 20 rfl ?_
    refine z_icmp_ge d_Mod_readsNumber_20 69 23 (by decide) rfl (fun h1 => ?_) (fun h => absurd (Int32.le_refl _) h)
    refine z_iconst d_Mod_readsNumber_69 1 (by decide) 70 rfl ?_
    exact z_ireturn d_Mod_readsNumber_70 (rfl) (rfl)
  | succ f ih =>
    intro i q a hi hq
    refine z_iload_n d_Mod_readsNumber_18 rfl 19 rfl ?_
    refine z_iload_n d_Mod_readsNumber_19 rfl 20 rfl ?_
    refine z_icmp_ge d_Mod_readsNumber_20 69 23 (by decide) rfl (fun h => absurd h (nI_ge (by omega) (by omega))) (fun h2 => ?_)
    refine z_aload_n d_Mod_readsNumber_23 rfl 24 rfl ?_
    refine z_invv d_Mod_readsNumber_24 27 rfl hm_Mod_isDigit lk_Mod_46 im_Mod_isDigit sl_Mod_Mod_isDigit rfl wm_45 (r_Mod_isDigit hp hq hsc) rfl rfl (by decide) rfl rfl (Nat.le_of_ble_eq_true rfl) ?_
    refine z_if_eq d_Mod_readsNumber_27 69 30 (by decide) rfl (fun h3 => ?_) (fun h3 => ?_)
    · have hd : dg mt p q = false := (zb_eq _).mp h3
      refine z_iconst d_Mod_readsNumber_69 1 (by decide) 70 rfl ?_
      exact z_ireturn d_Mod_readsNumber_70 (rfl) (by simp [rnm, hd])
    · have hd : dg mt p q = true := (zb_ne _).mp h3
      have hql := dg_lt hd
      refine z_aload_n d_Mod_readsNumber_30 rfl 31 rfl ?_
      refine z_get d_Mod_readsNumber_31 34 rfl fl_Mod_22_11 wm_45 rfl ?_
      refine z_iload_n d_Mod_readsNumber_34 rfl 35 rfl ?_
      refine z_bipush d_Mod_readsNumber_35 10 (by decide) 37 rfl ?_
      refine z_aload_n d_Mod_readsNumber_37 rfl 38 rfl ?_
      refine z_get d_Mod_readsNumber_38 41 rfl fl_Mod_22_11 wm_45 rfl ?_
      refine z_iload_n d_Mod_readsNumber_41 rfl 42 rfl ?_
      refine z_iaload d_Mod_readsNumber_42 k 43 rfl wm_50 rfl hk (by decide) ?_
      refine z_top (.int a) (by simp [upd]) ?_
      refine z_imul d_Mod_readsNumber_43 44 rfl ?_
      refine z_aload_n d_Mod_readsNumber_44 rfl 45 rfl ?_
      refine z_invv d_Mod_readsNumber_45 48 rfl hm_Mod_sign lk_Mod_42 im_Mod_sign sl_Mod_Mod_sign rfl wm_45 (r_Mod_sign hp hq hsc) rfl rfl (by decide) rfl rfl (Nat.le_of_ble_eq_true rfl) ?_
      refine z_iadd d_Mod_readsNumber_48 49 rfl ?_
      refine z_bipush d_Mod_readsNumber_49 48 (by decide) 51 rfl ?_
      refine z_isub d_Mod_readsNumber_51 52 rfl ?_
      refine z_iastore d_Mod_readsNumber_52 k 53 rfl wm_50 rfl hk (by decide) ?_
      refine z_hp (ws_50.trans (by rw [uu])) ?_
      refine z_aload_n d_Mod_readsNumber_53 rfl 54 rfl ?_
      refine z_dup d_Mod_readsNumber_54 rfl 55 rfl ?_
      refine z_get d_Mod_readsNumber_55 58 rfl fl_Mod_39_11 wm_45 rfl ?_
      refine z_top (.int (nI (q))) (by first | rfl | exact congrArg Value.int hsc) ?_
      refine z_iconst d_Mod_readsNumber_58 1 (by decide) 59 rfl ?_
      refine z_iadd d_Mod_readsNumber_59 60 rfl ?_
      refine z_putI d_Mod_readsNumber_60 63 rfl fp_Mod_39_11 (Or.inl rfl) wm_45 (by simp) ?_
      refine z_hp (wp_45_7.trans (by rw [uu, show nI q + 1 = nI (q + 1) from nI_1 q])) ?_
      refine z_iinc d_Mod_readsNumber_63 1 (by decide) 66 rfl rfl (by decide) rfl ?_
      refine z_goto d_Mod_readsNumber_66 18 (by decide) ?_
      rw [show rnm mt p (f + 1) q a = rnm mt p f (q + 1) (10 * a + sg mt p q - 48) by simp only [rnm]; rw [if_pos hd]]
      exact z_L _ (by simp [List.set, nI_succ]) (ih (i + 1) (q + 1) _ (by omega) hql)
set_option maxHeartbeats 400000 in
theorem r_Mod_readsNumber {K : zKK} {rf s im mt rd sc : Nat → Int32} {tl : List zC} {p q : Nat} (hp : p ≤ 24) (hq : q ≤ p) (hsc : sc 1 = nI p) {k m : Nat} (hk : k < 6) (hm : m ≤ 3) : Ret 2 0 0 m_Mod_readsNumber [.ref 45, .int (nI k), .int (nI m)] (wld K (rf, s, im, mt, rd, upd sc 2 (nI (q))) tl) (some (.int (zb (dg mt p q)))) (wld K (rf, s, im, mt, (if dg mt p q = true then upd rd k (rnm mt p m q 0).2 else rd), upd sc 2 (nI (if dg mt p q = true then (rnm mt p m q 0).1 else q))) tl) := by
  refine Ret.of (n := 1) (by decide) (zb_nar _) rfl (fun X => ?_)
  refine z_aload_n d_Mod_readsNumber_0 rfl 1 rfl ?_
  refine z_invv d_Mod_readsNumber_1 4 rfl hm_Mod_isDigit lk_Mod_46 im_Mod_isDigit sl_Mod_Mod_isDigit rfl wm_45 (r_Mod_isDigit hp hq hsc) rfl rfl (by decide) rfl rfl (Nat.le_of_ble_eq_true rfl) ?_
  refine z_if_ne d_Mod_readsNumber_4 9 7 (by decide) rfl (fun h1 => ?_) (fun h1 => ?_)
  · have hd : dg mt p q = true := (zb_ne _).mp h1
    rw [hd]
    refine z_aload_n d_Mod_readsNumber_9 rfl 10 rfl ?_
    refine z_get d_Mod_readsNumber_10 13 rfl fl_Mod_22_11 wm_45 rfl ?_
    refine z_iload_n d_Mod_readsNumber_13 rfl 14 rfl ?_
    refine z_iconst d_Mod_readsNumber_14 0 (by decide) 15 rfl ?_
    refine z_iastore d_Mod_readsNumber_15 k 16 rfl wm_50 rfl hk (by decide) ?_
    refine z_hp ws_50 ?_
    refine z_iconst d_Mod_readsNumber_16 0 (by decide) 17 rfl ?_
    refine z_istore_n d_Mod_readsNumber_17 18 rfl (by decide) rfl ?_
    exact l_Mod_readsNumber hp hsc hk hm m 0 q 0 (by omega) hq
  · have hd : dg mt p q = false := (zb_eq _).mp h1
    rw [hd]
    refine z_iconst d_Mod_readsNumber_7 0 (by decide) 8 rfl ?_
    exact z_ireturn d_Mod_readsNumber_8 (rfl) (by simp)
theorem r_Mod_markOf_98 {hp : List zC} : Ret 0 0 0 m_Mod_markOf [.int 98] hp (some (.int (0))) hp := by
  refine Ret.of (n := 0) (by decide) (rfl) rfl (fun X => ?_)
  refine z_iload_n d_Mod_markOf_0 rfl 1 rfl ?_
  refine z_tabIn (off := 103) d_Mod_markOf_1 104 (by decide) (by decide) (by decide) (by decide) ?_
  refine z_iconst d_Mod_markOf_104 (0) (by decide) 105 rfl ?_
  exact z_ireturn d_Mod_markOf_105 rfl rfl
theorem r_Mod_markOf_99 {hp : List zC} : Ret 0 0 0 m_Mod_markOf [.int 99] hp (some (.int (-9))) hp := by
  refine Ret.of (n := 0) (by decide) (rfl) rfl (fun X => ?_)
  refine z_iload_n d_Mod_markOf_0 rfl 1 rfl ?_
  refine z_tabIn (off := 121) d_Mod_markOf_1 122 (by decide) (by decide) (by decide) (by decide) ?_
  refine z_bipush d_Mod_markOf_122 (-9) (by decide) 124 rfl ?_
  exact z_ireturn d_Mod_markOf_124 rfl rfl
theorem r_Mod_markOf_100 {hp : List zC} : Ret 0 0 0 m_Mod_markOf [.int 100] hp (some (.int (-9))) hp := by
  refine Ret.of (n := 0) (by decide) (rfl) rfl (fun X => ?_)
  refine z_iload_n d_Mod_markOf_0 rfl 1 rfl ?_
  refine z_tabIn (off := 121) d_Mod_markOf_1 122 (by decide) (by decide) (by decide) (by decide) ?_
  refine z_bipush d_Mod_markOf_122 (-9) (by decide) 124 rfl ?_
  exact z_ireturn d_Mod_markOf_124 rfl rfl
theorem r_Mod_markOf_101 {hp : List zC} : Ret 0 0 0 m_Mod_markOf [.int 101] hp (some (.int (-9))) hp := by
  refine Ret.of (n := 0) (by decide) (rfl) rfl (fun X => ?_)
  refine z_iload_n d_Mod_markOf_0 rfl 1 rfl ?_
  refine z_tabIn (off := 121) d_Mod_markOf_1 122 (by decide) (by decide) (by decide) (by decide) ?_
  refine z_bipush d_Mod_markOf_122 (-9) (by decide) 124 rfl ?_
  exact z_ireturn d_Mod_markOf_124 rfl rfl
theorem r_Mod_markOf_102 {hp : List zC} : Ret 0 0 0 m_Mod_markOf [.int 102] hp (some (.int (-9))) hp := by
  refine Ret.of (n := 0) (by decide) (rfl) rfl (fun X => ?_)
  refine z_iload_n d_Mod_markOf_0 rfl 1 rfl ?_
  refine z_tabIn (off := 121) d_Mod_markOf_1 122 (by decide) (by decide) (by decide) (by decide) ?_
  refine z_bipush d_Mod_markOf_122 (-9) (by decide) 124 rfl ?_
  exact z_ireturn d_Mod_markOf_124 rfl rfl
theorem r_Mod_markOf_103 {hp : List zC} : Ret 0 0 0 m_Mod_markOf [.int 103] hp (some (.int (-9))) hp := by
  refine Ret.of (n := 0) (by decide) (rfl) rfl (fun X => ?_)
  refine z_iload_n d_Mod_markOf_0 rfl 1 rfl ?_
  refine z_tabIn (off := 121) d_Mod_markOf_1 122 (by decide) (by decide) (by decide) (by decide) ?_
  refine z_bipush d_Mod_markOf_122 (-9) (by decide) 124 rfl ?_
  exact z_ireturn d_Mod_markOf_124 rfl rfl
theorem r_Mod_markOf_104 {hp : List zC} : Ret 0 0 0 m_Mod_markOf [.int 104] hp (some (.int (1))) hp := by
  refine Ret.of (n := 0) (by decide) (rfl) rfl (fun X => ?_)
  refine z_iload_n d_Mod_markOf_0 rfl 1 rfl ?_
  refine z_tabIn (off := 105) d_Mod_markOf_1 106 (by decide) (by decide) (by decide) (by decide) ?_
  refine z_iconst d_Mod_markOf_106 (1) (by decide) 107 rfl ?_
  exact z_ireturn d_Mod_markOf_107 rfl rfl
theorem r_Mod_markOf_105 {hp : List zC} : Ret 0 0 0 m_Mod_markOf [.int 105] hp (some (.int (-9))) hp := by
  refine Ret.of (n := 0) (by decide) (rfl) rfl (fun X => ?_)
  refine z_iload_n d_Mod_markOf_0 rfl 1 rfl ?_
  refine z_tabIn (off := 121) d_Mod_markOf_1 122 (by decide) (by decide) (by decide) (by decide) ?_
  refine z_bipush d_Mod_markOf_122 (-9) (by decide) 124 rfl ?_
  exact z_ireturn d_Mod_markOf_124 rfl rfl
theorem r_Mod_markOf_106 {hp : List zC} : Ret 0 0 0 m_Mod_markOf [.int 106] hp (some (.int (-9))) hp := by
  refine Ret.of (n := 0) (by decide) (rfl) rfl (fun X => ?_)
  refine z_iload_n d_Mod_markOf_0 rfl 1 rfl ?_
  refine z_tabIn (off := 121) d_Mod_markOf_1 122 (by decide) (by decide) (by decide) (by decide) ?_
  refine z_bipush d_Mod_markOf_122 (-9) (by decide) 124 rfl ?_
  exact z_ireturn d_Mod_markOf_124 rfl rfl
theorem r_Mod_markOf_107 {hp : List zC} : Ret 0 0 0 m_Mod_markOf [.int 107] hp (some (.int (-9))) hp := by
  refine Ret.of (n := 0) (by decide) (rfl) rfl (fun X => ?_)
  refine z_iload_n d_Mod_markOf_0 rfl 1 rfl ?_
  refine z_tabIn (off := 121) d_Mod_markOf_1 122 (by decide) (by decide) (by decide) (by decide) ?_
  refine z_bipush d_Mod_markOf_122 (-9) (by decide) 124 rfl ?_
  exact z_ireturn d_Mod_markOf_124 rfl rfl
theorem r_Mod_markOf_108 {hp : List zC} : Ret 0 0 0 m_Mod_markOf [.int 108] hp (some (.int (-9))) hp := by
  refine Ret.of (n := 0) (by decide) (rfl) rfl (fun X => ?_)
  refine z_iload_n d_Mod_markOf_0 rfl 1 rfl ?_
  refine z_tabIn (off := 121) d_Mod_markOf_1 122 (by decide) (by decide) (by decide) (by decide) ?_
  refine z_bipush d_Mod_markOf_122 (-9) (by decide) 124 rfl ?_
  exact z_ireturn d_Mod_markOf_124 rfl rfl
theorem r_Mod_markOf_109 {hp : List zC} : Ret 0 0 0 m_Mod_markOf [.int 109] hp (some (.int (5))) hp := by
  refine Ret.of (n := 0) (by decide) (rfl) rfl (fun X => ?_)
  refine z_iload_n d_Mod_markOf_0 rfl 1 rfl ?_
  refine z_tabIn (off := 113) d_Mod_markOf_1 114 (by decide) (by decide) (by decide) (by decide) ?_
  refine z_iconst d_Mod_markOf_114 (5) (by decide) 115 rfl ?_
  exact z_ireturn d_Mod_markOf_115 rfl rfl
theorem r_Mod_markOf_110 {hp : List zC} : Ret 0 0 0 m_Mod_markOf [.int 110] hp (some (.int (4))) hp := by
  refine Ret.of (n := 0) (by decide) (rfl) rfl (fun X => ?_)
  refine z_iload_n d_Mod_markOf_0 rfl 1 rfl ?_
  refine z_tabIn (off := 111) d_Mod_markOf_1 112 (by decide) (by decide) (by decide) (by decide) ?_
  refine z_iconst d_Mod_markOf_112 (4) (by decide) 113 rfl ?_
  exact z_ireturn d_Mod_markOf_113 rfl rfl
theorem r_Mod_markOf_111 {hp : List zC} : Ret 0 0 0 m_Mod_markOf [.int 111] hp (some (.int (6))) hp := by
  refine Ret.of (n := 0) (by decide) (rfl) rfl (fun X => ?_)
  refine z_iload_n d_Mod_markOf_0 rfl 1 rfl ?_
  refine z_tabIn (off := 115) d_Mod_markOf_1 116 (by decide) (by decide) (by decide) (by decide) ?_
  refine z_bipush d_Mod_markOf_116 (6) (by decide) 118 rfl ?_
  exact z_ireturn d_Mod_markOf_118 rfl rfl
theorem r_Mod_markOf_112 {hp : List zC} : Ret 0 0 0 m_Mod_markOf [.int 112] hp (some (.int (7))) hp := by
  refine Ret.of (n := 0) (by decide) (rfl) rfl (fun X => ?_)
  refine z_iload_n d_Mod_markOf_0 rfl 1 rfl ?_
  refine z_tabIn (off := 118) d_Mod_markOf_1 119 (by decide) (by decide) (by decide) (by decide) ?_
  refine z_bipush d_Mod_markOf_119 (7) (by decide) 121 rfl ?_
  exact z_ireturn d_Mod_markOf_121 rfl rfl
theorem r_Mod_markOf_113 {hp : List zC} : Ret 0 0 0 m_Mod_markOf [.int 113] hp (some (.int (-9))) hp := by
  refine Ret.of (n := 0) (by decide) (rfl) rfl (fun X => ?_)
  refine z_iload_n d_Mod_markOf_0 rfl 1 rfl ?_
  refine z_tabIn (off := 121) d_Mod_markOf_1 122 (by decide) (by decide) (by decide) (by decide) ?_
  refine z_bipush d_Mod_markOf_122 (-9) (by decide) 124 rfl ?_
  exact z_ireturn d_Mod_markOf_124 rfl rfl
theorem r_Mod_markOf_114 {hp : List zC} : Ret 0 0 0 m_Mod_markOf [.int 114] hp (some (.int (-9))) hp := by
  refine Ret.of (n := 0) (by decide) (rfl) rfl (fun X => ?_)
  refine z_iload_n d_Mod_markOf_0 rfl 1 rfl ?_
  refine z_tabIn (off := 121) d_Mod_markOf_1 122 (by decide) (by decide) (by decide) (by decide) ?_
  refine z_bipush d_Mod_markOf_122 (-9) (by decide) 124 rfl ?_
  exact z_ireturn d_Mod_markOf_124 rfl rfl
theorem r_Mod_markOf_115 {hp : List zC} : Ret 0 0 0 m_Mod_markOf [.int 115] hp (some (.int (-9))) hp := by
  refine Ret.of (n := 0) (by decide) (rfl) rfl (fun X => ?_)
  refine z_iload_n d_Mod_markOf_0 rfl 1 rfl ?_
  refine z_tabIn (off := 121) d_Mod_markOf_1 122 (by decide) (by decide) (by decide) (by decide) ?_
  refine z_bipush d_Mod_markOf_122 (-9) (by decide) 124 rfl ?_
  exact z_ireturn d_Mod_markOf_124 rfl rfl
theorem r_Mod_markOf_116 {hp : List zC} : Ret 0 0 0 m_Mod_markOf [.int 116] hp (some (.int (-9))) hp := by
  refine Ret.of (n := 0) (by decide) (rfl) rfl (fun X => ?_)
  refine z_iload_n d_Mod_markOf_0 rfl 1 rfl ?_
  refine z_tabIn (off := 121) d_Mod_markOf_1 122 (by decide) (by decide) (by decide) (by decide) ?_
  refine z_bipush d_Mod_markOf_122 (-9) (by decide) 124 rfl ?_
  exact z_ireturn d_Mod_markOf_124 rfl rfl
theorem r_Mod_markOf_117 {hp : List zC} : Ret 0 0 0 m_Mod_markOf [.int 117] hp (some (.int (2))) hp := by
  refine Ret.of (n := 0) (by decide) (rfl) rfl (fun X => ?_)
  refine z_iload_n d_Mod_markOf_0 rfl 1 rfl ?_
  refine z_tabIn (off := 107) d_Mod_markOf_1 108 (by decide) (by decide) (by decide) (by decide) ?_
  refine z_iconst d_Mod_markOf_108 (2) (by decide) 109 rfl ?_
  exact z_ireturn d_Mod_markOf_109 rfl rfl
theorem r_Mod_markOf_118 {hp : List zC} : Ret 0 0 0 m_Mod_markOf [.int 118] hp (some (.int (-9))) hp := by
  refine Ret.of (n := 0) (by decide) (rfl) rfl (fun X => ?_)
  refine z_iload_n d_Mod_markOf_0 rfl 1 rfl ?_
  refine z_tabIn (off := 121) d_Mod_markOf_1 122 (by decide) (by decide) (by decide) (by decide) ?_
  refine z_bipush d_Mod_markOf_122 (-9) (by decide) 124 rfl ?_
  exact z_ireturn d_Mod_markOf_124 rfl rfl
theorem r_Mod_markOf_119 {hp : List zC} : Ret 0 0 0 m_Mod_markOf [.int 119] hp (some (.int (3))) hp := by
  refine Ret.of (n := 0) (by decide) (rfl) rfl (fun X => ?_)
  refine z_iload_n d_Mod_markOf_0 rfl 1 rfl ?_
  refine z_tabIn (off := 109) d_Mod_markOf_1 110 (by decide) (by decide) (by decide) (by decide) ?_
  refine z_iconst d_Mod_markOf_110 (3) (by decide) 111 rfl ?_
  exact z_ireturn d_Mod_markOf_111 rfl rfl
theorem mkO_out {c : Int32} (h : c.toInt < 98 ∨ 119 < c.toInt) : mkO c = -9 := by
  unfold mkO
  have k : ∀ v : Nat, 98 ≤ v → v ≤ 119 → ¬ c = nI v := fun v h1 h2 e => by
    have e2 : c.toInt = (v : Int) := by rw [e]; exact nI_toInt (by omega)
    omega
  rw [if_neg (show ¬ c = 98 from k 98 (by omega) (by omega)), if_neg (show ¬ c = 104 from k 104 (by omega) (by omega)), if_neg (show ¬ c = 117 from k 117 (by omega) (by omega)), if_neg (show ¬ c = 119 from k 119 (by omega) (by omega)), if_neg (show ¬ c = 110 from k 110 (by omega) (by omega)), if_neg (show ¬ c = 109 from k 109 (by omega) (by omega)), if_neg (show ¬ c = 111 from k 111 (by omega) (by omega)), if_neg (show ¬ c = 112 from k 112 (by omega) (by omega))]
theorem r_Mod_markOf {hp : List zC} (c : Int32) : Ret 0 0 0 m_Mod_markOf [.int c] hp (some (.int (mkO c))) hp := by
  by_cases h : c.toInt < 98 ∨ 119 < c.toInt
  · rw [mkO_out h]
    refine Ret.of (n := 0) (by decide) (rfl) rfl (fun X => ?_)
    refine z_iload_n d_Mod_markOf_0 rfl 1 rfl ?_
    refine z_tabOut d_Mod_markOf_1 122 h (by decide) ?_
    refine z_bipush d_Mod_markOf_122 (-9) (by decide) 124 rfl ?_
    exact z_ireturn d_Mod_markOf_124 rfl rfl
  · obtain ⟨v, hv⟩ : ∃ v : Nat, c.toInt = (v : Int) := ⟨c.toInt.toNat, by omega⟩
    have e : c = nI v := Int32.toInt_inj.mp (by rw [hv]; exact (nI_toInt (by omega)).symm)
    subst e
    rcases (show v = 98 ∨ v = 99 ∨ v = 100 ∨ v = 101 ∨ v = 102 ∨ v = 103 ∨ v = 104 ∨ v = 105 ∨ v = 106 ∨ v = 107 ∨ v = 108 ∨ v = 109 ∨ v = 110 ∨ v = 111 ∨ v = 112 ∨ v = 113 ∨ v = 114 ∨ v = 115 ∨ v = 116 ∨ v = 117 ∨ v = 118 ∨ v = 119 by omega) with rfl | rfl | rfl | rfl | rfl | rfl | rfl | rfl | rfl | rfl | rfl | rfl | rfl | rfl | rfl | rfl | rfl | rfl | rfl | rfl | rfl | rfl
    · exact r_Mod_markOf_98
    · exact r_Mod_markOf_99
    · exact r_Mod_markOf_100
    · exact r_Mod_markOf_101
    · exact r_Mod_markOf_102
    · exact r_Mod_markOf_103
    · exact r_Mod_markOf_104
    · exact r_Mod_markOf_105
    · exact r_Mod_markOf_106
    · exact r_Mod_markOf_107
    · exact r_Mod_markOf_108
    · exact r_Mod_markOf_109
    · exact r_Mod_markOf_110
    · exact r_Mod_markOf_111
    · exact r_Mod_markOf_112
    · exact r_Mod_markOf_113
    · exact r_Mod_markOf_114
    · exact r_Mod_markOf_115
    · exact r_Mod_markOf_116
    · exact r_Mod_markOf_117
    · exact r_Mod_markOf_118
    · exact r_Mod_markOf_119
set_option maxHeartbeats 400000 in
theorem s_Mod_reads_185 {X : zS} {K : zKK} {rf s im mt rd sc : Nat → Int32} {tl : List zC} {p : Nat} (hp : p ≤ 24) (hsc : sc 1 = nI p) (q : Nat) (hq : q ≤ p) : Z X m_Mod_reads 4 0 0 (some (.int (zb (f5 mt p q rd).1))) (wld K (rf, s, im, mt, (f5 mt p q rd).2.2, upd sc 2 (nI ((f5 mt p q rd).2.1))) tl) 185 [some (.ref 45), none] [] (wld K (rf, s, im, mt, rd, upd sc 2 (nI (q))) tl) := by
  refine z_aload_n d_Mod_reads_185 rfl 186 rfl ?_
  refine z_bipush d_Mod_reads_186 64 (by decide) 188 rfl ?_
  refine z_invv d_Mod_reads_188 191 rfl hm_Mod_takes lk_Mod_50 im_Mod_takes sl_Mod_Mod_takes rfl wm_45 (r_Mod_takes (q := q) hp (hq) hsc _) rfl rfl (by decide) rfl rfl (Nat.le_of_ble_eq_true rfl) ?_
  refine z_if_eq d_Mod_reads_191 203 194 (by decide) rfl (fun h1 => ?_) (fun h1 => ?_)
  · have e1 : ¬ sg mt p q = 64 := of_decide_eq_false ((zb_eq _).mp h1)
    refine z_hp (hp1 := wld K (rf, s, im, mt, rd, upd sc 2 (nI (q))) tl) (by rw [if_neg e1]) ?_
    have e2 : f5 mt p q rd = (false, q, rd) := by unfold f5; rw [if_neg e1]
    rw [e2]
    refine z_iconst d_Mod_reads_203 0 (by decide) 204 rfl ?_
    exact z_ireturn d_Mod_reads_204 (by first | rfl | (rw [zb_of e6]) | (rw [zb_no e6])) (by rfl)
  · have e1 : sg mt p q = 64 := of_decide_eq_true ((zb_ne _).mp h1)
    have hq1 : q < p := sg_lt (mt := mt) (by rw [e1]; decide)
    refine z_hp (hp1 := wld K (rf, s, im, mt, rd, upd sc 2 (nI (q + 1))) tl) (by rw [if_pos e1]) ?_
    refine z_aload_n d_Mod_reads_194 rfl 195 rfl ?_
    refine z_iconst d_Mod_reads_195 4 (by decide) 196 rfl ?_
    refine z_iconst d_Mod_reads_196 2 (by decide) 197 rfl ?_
    refine z_invv d_Mod_reads_197 200 rfl hm_Mod_readsNumber lk_Mod_54 im_Mod_readsNumber sl_Mod_Mod_readsNumber rfl wm_45 (r_Mod_readsNumber (q := q + 1) (k := 4) (m := 2) hp hq1 hsc (by decide) (by decide)) rfl rfl (by decide) rfl rfl (Nat.le_of_ble_eq_true rfl) ?_
    refine z_if_ne d_Mod_reads_200 205 203 (by decide) rfl (fun h2 => ?_) (fun h2 => ?_)
    · have e2 : dg mt p (q + 1) = true := (zb_ne _).mp h2
      refine z_hp (hp1 := wld K (rf, s, im, mt, upd rd 4 (rnm mt p 2 (q + 1) 0).2, upd sc 2 (nI ((rnm mt p 2 (q + 1) 0).1))) tl) (by rw [if_pos e2, if_pos e2]) ?_
      obtain ⟨y, v, hy⟩ : ∃ y v, rnm mt p 2 (q + 1) 0 = (y, v) := ⟨_, _, rfl⟩
      have hy1 := rnm_le (mt := mt) (p := p) 2 (q + 1) 0 hq1
      rw [hy] at hy1
      rw [hy]
      refine z_aload_n d_Mod_reads_205 rfl 206 rfl ?_
      refine z_get d_Mod_reads_206 209 rfl fl_Mod_22_11 wm_45 rfl ?_
      refine z_iconst d_Mod_reads_209 5 (by decide) 210 rfl ?_
      refine z_aload_n d_Mod_reads_210 rfl 211 rfl ?_
      refine z_bipush d_Mod_reads_211 63 (by decide) 213 rfl ?_
      refine z_invv d_Mod_reads_213 216 rfl hm_Mod_takes lk_Mod_50 im_Mod_takes sl_Mod_Mod_takes rfl wm_45 (r_Mod_takes (q := y) hp (hy1.2) hsc _) rfl rfl (by decide) rfl rfl (Nat.le_of_ble_eq_true rfl) ?_
      refine z_if_eq d_Mod_reads_216 223 219 (by decide) rfl (fun h3 => ?_) (fun h3 => ?_)
      · have e4 : ¬ sg mt p y = 63 := of_decide_eq_false ((zb_eq _).mp h3)
        refine z_hp (hp1 := wld K (rf, s, im, mt, upd rd 4 v, upd sc 2 (nI (y))) tl) (by rw [if_neg e4]) ?_
        have e5 : f5 mt p q rd = (decide (y = p), y, upd (upd rd 4 v) 5 0) := by unfold f5; rw [if_pos e1, if_pos e2, hy, if_neg e4]
        rw [e5]
        refine z_iconst d_Mod_reads_223 0 (by decide) 224 rfl ?_
        refine z_iastore d_Mod_reads_224 5 225 rfl wm_50 rfl (by decide) (by decide) ?_
        refine z_hp ws_50 ?_
        refine z_aload_n d_Mod_reads_225 rfl 226 rfl ?_
        refine z_get d_Mod_reads_226 229 rfl fl_Mod_39_11 wm_45 rfl ?_
        refine z_aload_n d_Mod_reads_229 rfl 230 rfl ?_
        refine z_get d_Mod_reads_230 233 rfl fl_Mod_33_11 wm_45 rfl ?_
        refine z_icmp_ne d_Mod_reads_233 240 236 (by decide) rfl (fun h4 => ?_) (fun h4 => ?_)
        · have e6 := fun z : _ = p => h4 ((congrArg nI z).trans hsc.symm)
          refine z_iconst d_Mod_reads_240 0 (by decide) 241 rfl ?_
          exact z_ireturn d_Mod_reads_241 (by first | rfl | (rw [zb_of e6]) | (rw [zb_no e6])) (by rfl)
        · have e6 := (nI_eq (by omega) (by omega)).mp (show nI _ = nI p from h4.trans hsc)
          refine z_iconst d_Mod_reads_236 1 (by decide) 237 rfl ?_
          refine z_goto d_Mod_reads_237 241 (by decide) ?_
          exact z_ireturn d_Mod_reads_241 (by first | rfl | (rw [zb_of e6]) | (rw [zb_no e6])) (by rfl)
      · have e4 : sg mt p y = 63 := of_decide_eq_true ((zb_ne _).mp h3)
        have hy2 : y < p := sg_lt (mt := mt) (by rw [e4]; decide)
        refine z_hp (hp1 := wld K (rf, s, im, mt, upd rd 4 v, upd sc 2 (nI (y + 1))) tl) (by rw [if_pos e4]) ?_
        have e5 : f5 mt p q rd = (decide (y + 1 = p), y + 1, upd (upd rd 4 v) 5 1) := by unfold f5; rw [if_pos e1, if_pos e2, hy, if_pos e4]
        rw [e5]
        refine z_iconst d_Mod_reads_219 1 (by decide) 220 rfl ?_
        refine z_goto d_Mod_reads_220 224 (by decide) ?_
        refine z_iastore d_Mod_reads_224 5 225 rfl wm_50 rfl (by decide) (by decide) ?_
        refine z_hp ws_50 ?_
        refine z_aload_n d_Mod_reads_225 rfl 226 rfl ?_
        refine z_get d_Mod_reads_226 229 rfl fl_Mod_39_11 wm_45 rfl ?_
        refine z_aload_n d_Mod_reads_229 rfl 230 rfl ?_
        refine z_get d_Mod_reads_230 233 rfl fl_Mod_33_11 wm_45 rfl ?_
        refine z_icmp_ne d_Mod_reads_233 240 236 (by decide) rfl (fun h5 => ?_) (fun h5 => ?_)
        · have e6 := fun z : _ = p => h5 ((congrArg nI z).trans hsc.symm)
          refine z_iconst d_Mod_reads_240 0 (by decide) 241 rfl ?_
          exact z_ireturn d_Mod_reads_241 (by first | rfl | (rw [zb_of e6]) | (rw [zb_no e6])) (by rfl)
        · have e6 := (nI_eq (by omega) (by omega)).mp (show nI _ = nI p from h5.trans hsc)
          refine z_iconst d_Mod_reads_236 1 (by decide) 237 rfl ?_
          refine z_goto d_Mod_reads_237 241 (by decide) ?_
          exact z_ireturn d_Mod_reads_241 (by first | rfl | (rw [zb_of e6]) | (rw [zb_no e6])) (by rfl)
    · have e2 : dg mt p (q + 1) = false := (zb_eq _).mp h2
      refine z_hp (hp1 := wld K (rf, s, im, mt, rd, upd sc 2 (nI (q + 1))) tl) (by rw [if_neg (by rw [e2]; decide), if_neg (by rw [e2]; decide)]) ?_
      have e3 : f5 mt p q rd = (false, q + 1, rd) := by unfold f5; rw [if_pos e1, if_neg (by rw [e2]; decide)]
      rw [e3]
      refine z_iconst d_Mod_reads_203 0 (by decide) 204 rfl ?_
      exact z_ireturn d_Mod_reads_204 (by first | rfl | (rw [zb_of e6]) | (rw [zb_no e6])) (by rfl)
theorem mkO_rng (c : Int32) : mkO c = -9 ∨ (0 ≤ (mkO c).toInt ∧ (mkO c).toInt ≤ 7) := by
  unfold mkO
  repeat (first | (split; · exact Or.inr (by decide)) | exact Or.inl rfl)
theorem mkO_val {c la : Int32} (h : ¬ mkO c ≤ la) (hl : -1 ≤ la.toInt) : -1 ≤ (mkO c).toInt ∧ (la.toInt < (mkO c).toInt ∧ (mkO c).toInt ≤ 7) ∧ ¬ mkO c = -9 := by
  have h2 : la.toInt < (mkO c).toInt := Int32.lt_iff_toInt_lt.mp (Int32.not_le.mp h)
  rcases mkO_rng c with e | ⟨e1, e2⟩
  · rw [e] at h2
    have : (-9 : Int32).toInt = -9 := by decide
    omega
  · refine ⟨by omega, ⟨h2, e2⟩, fun e => ?_⟩
    rw [e] at e1
    exact absurd e1 (by decide)
set_option maxHeartbeats 400000 in
theorem s_Mod_reads_141 {X : zS} {K : zKK} {rf s im mt sc : Nat → Int32} {tl : List zC} {p : Nat} (hp : p ≤ 24) (hsc : sc 1 = nI p) : ∀ (f : Nat) (la : Int32) (q : Nat) (rd : Nat → Int32), (-1 ≤ la.toInt ∧ la.toInt ≤ 7 ∧ 8 ≤ la.toInt + (f : Int)) → q ≤ p → Z X m_Mod_reads 4 0 0 (some (.int (zb (f4 mt p f la q rd).1))) (wld K (rf, s, im, mt, (f4 mt p f la q rd).2.2, upd sc 2 (nI ((f4 mt p f la q rd).2.1))) tl) 141 [some (.ref 45), some (.int la)] [] (wld K (rf, s, im, mt, rd, upd sc 2 (nI (q))) tl) := by
  intro f
  induction f with
  | zero =>
    intro la q rd hla hq
    exact absurd hla.2.2 (by have := hla.2.1; omega)
  | succ f ih =>
    intro la q rd hla hq
    refine z_aload_n d_Mod_reads_141 rfl 142 rfl ?_
    refine z_invv d_Mod_reads_142 145 rfl hm_Mod_sign lk_Mod_42 im_Mod_sign sl_Mod_Mod_sign rfl wm_45 (r_Mod_sign hp hq hsc) rfl rfl (by decide) rfl rfl (Nat.le_of_ble_eq_true rfl) ?_
    refine z_invs d_Mod_reads_145 148 rfl hm_Mod_markOf lk_Mod_57 st_Mod_markOf (r_Mod_markOf _) rfl rfl (by decide) rfl rfl (Nat.le_of_ble_eq_true rfl) ?_
    refine z_iload_n d_Mod_reads_148 rfl 149 rfl ?_
    refine z_icmp_le d_Mod_reads_149 185 152 (by decide) rfl (fun h1 => ?_) (fun h1 => ?_)
    · have e1 : f4 mt p (f + 1) la q rd = f5 mt p q rd := by simp only [f4]; rw [if_pos h1]
      rw [e1]
      exact z_Lw _ rfl (s_Mod_reads_185 hp hsc q hq)
    · have e1 : f4 mt p (f + 1) la q rd = f4 mt p f (mkO (sg mt p q)) (q + 1) (upd rd 3 (rd 3 ||| 1 <<< (mkO (sg mt p q) &&& 31))) := by simp only [f4]; rw [if_neg h1]
      rw [e1]
      have hm := mkO_val h1 hla.1
      have hq1 : q < p := sg_lt (mt := mt) (fun e => hm.2.2 (by rw [e]; rfl))
      refine z_aload_n d_Mod_reads_152 rfl 153 rfl ?_
      refine z_invv d_Mod_reads_153 156 rfl hm_Mod_sign lk_Mod_42 im_Mod_sign sl_Mod_Mod_sign rfl wm_45 (r_Mod_sign hp hq hsc) rfl rfl (by decide) rfl rfl (Nat.le_of_ble_eq_true rfl) ?_
      refine z_invs d_Mod_reads_156 159 rfl hm_Mod_markOf lk_Mod_57 st_Mod_markOf (r_Mod_markOf _) rfl rfl (by decide) rfl rfl (Nat.le_of_ble_eq_true rfl) ?_
      refine z_istore_n d_Mod_reads_159 160 rfl (by decide) rfl ?_
      refine z_aload_n d_Mod_reads_160 rfl 161 rfl ?_
      refine z_get d_Mod_reads_161 164 rfl fl_Mod_22_11 wm_45 rfl ?_
      refine z_iconst d_Mod_reads_164 3 (by decide) 165 rfl ?_
      refine z_dup2 d_Mod_reads_165 rfl rfl 166 rfl ?_
      refine z_iaload d_Mod_reads_166 (3) 167 rfl wm_50 (rfl) (by omega) (by decide) ?_
      refine z_iconst d_Mod_reads_167 1 (by decide) 168 rfl ?_
      refine z_iload_n d_Mod_reads_168 rfl 169 rfl ?_
      refine z_ishl d_Mod_reads_169 170 rfl ?_
      refine z_ior d_Mod_reads_170 171 rfl ?_
      refine z_iastore d_Mod_reads_171 3 172 rfl wm_50 rfl (by decide) (by decide) ?_
      refine z_hp ws_50 ?_
      refine z_aload_n d_Mod_reads_172 rfl 173 rfl ?_
      refine z_dup d_Mod_reads_173 rfl 174 rfl ?_
      refine z_get d_Mod_reads_174 177 rfl fl_Mod_39_11 wm_45 rfl ?_
      refine z_top (.int (nI (q))) (by first | rfl | exact congrArg Value.int hsc) ?_
      refine z_iconst d_Mod_reads_177 1 (by decide) 178 rfl ?_
      refine z_iadd d_Mod_reads_178 179 rfl ?_
      refine z_putI d_Mod_reads_179 182 rfl fp_Mod_39_11 (Or.inl rfl) wm_45 (by simp) ?_
      refine z_hp (wp_45_7.trans (by rw [uu, show nI q + 1 = nI (q + 1) from nI_1 q])) ?_
      refine z_goto d_Mod_reads_182 141 (by decide) ?_
      exact z_L _ rfl (ih (mkO (sg mt p q)) (q + 1) _ ⟨hm.1, hm.2.1.2, by have := hla.2.2; have := hm.2.1; omega⟩ hq1)
set_option maxHeartbeats 400000 in
theorem s_Mod_reads_87 {X : zS} {K : zKK} {rf s im mt rd sc : Nat → Int32} {tl : List zC} {p : Nat} (hp : p ≤ 24) (hsc : sc 1 = nI p) (q : Nat) (hq : q ≤ p) : Z X m_Mod_reads 4 0 0 (some (.int (zb (f3 mt p q rd).1))) (wld K (rf, s, im, mt, (f3 mt p q rd).2.2, upd sc 2 (nI ((f3 mt p q rd).2.1))) tl) 87 [some (.ref 45), none] [] (wld K (rf, s, im, mt, rd, upd sc 2 (nI (q))) tl) := by
  refine z_aload_n d_Mod_reads_87 rfl 88 rfl ?_
  refine z_bipush d_Mod_reads_88 99 (by decide) 90 rfl ?_
  refine z_invv d_Mod_reads_90 93 rfl hm_Mod_takes lk_Mod_50 im_Mod_takes sl_Mod_Mod_takes rfl wm_45 (r_Mod_takes (q := q) hp (hq) hsc _) rfl rfl (by decide) rfl rfl (Nat.le_of_ble_eq_true rfl) ?_
  refine z_if_eq d_Mod_reads_93 139 96 (by decide) rfl (fun h1 => ?_) (fun h1 => ?_)
  · have e1 : ¬ sg mt p q = 99 := of_decide_eq_false ((zb_eq _).mp h1)
    refine z_hp (hp1 := wld K (rf, s, im, mt, rd, upd sc 2 (nI (q))) tl) (by rw [if_neg e1]) ?_
    have e2 : f3 mt p q rd = f4 mt p 9 (-1) q rd := by unfold f3; rw [if_neg e1]
    rw [e2]
    refine z_iconst d_Mod_reads_139 (-1) (by decide) 140 rfl ?_
    refine z_istore_n d_Mod_reads_140 141 rfl (by decide) rfl ?_
    exact z_Lw _ rfl (s_Mod_reads_141 hp hsc 9 (-1) q _ (by decide) (by omega))
  · have e1 : sg mt p q = 99 := of_decide_eq_true ((zb_ne _).mp h1)
    have hq1 : q < p := sg_lt (mt := mt) (by rw [e1]; decide)
    refine z_hp (hp1 := wld K (rf, s, im, mt, rd, upd sc 2 (nI (q + 1))) tl) (by rw [if_pos e1]) ?_
    refine z_aload_n d_Mod_reads_96 rfl 97 rfl ?_
    refine z_invv d_Mod_reads_97 100 rfl hm_Mod_sign lk_Mod_42 im_Mod_sign sl_Mod_Mod_sign rfl wm_45 (r_Mod_sign (q := q + 1) hp hq1 hsc) rfl rfl (by decide) rfl rfl (Nat.le_of_ble_eq_true rfl) ?_
    refine z_bipush d_Mod_reads_100 48 (by decide) 102 rfl ?_
    refine z_icmp_lt d_Mod_reads_102 114 105 (by decide) rfl (fun h2 => ?_) (fun h2 => ?_)
    · have e3 : f3 mt p q rd = (false, q + 1, rd) := by unfold f3; rw [if_pos e1, if_neg (Int32.not_le.mpr h2)]
      rw [e3]
      refine z_iconst d_Mod_reads_114 0 (by decide) 115 rfl ?_
      exact z_ireturn d_Mod_reads_115 (rfl) (by rfl)
    · have e2 : 48 ≤ sg mt p (q + 1) := Int32.not_lt.mp h2
      refine z_aload_n d_Mod_reads_105 rfl 106 rfl ?_
      refine z_invv d_Mod_reads_106 109 rfl hm_Mod_sign lk_Mod_42 im_Mod_sign sl_Mod_Mod_sign rfl wm_45 (r_Mod_sign (q := q + 1) hp hq1 hsc) rfl rfl (by decide) rfl rfl (Nat.le_of_ble_eq_true rfl) ?_
      refine z_bipush d_Mod_reads_109 55 (by decide) 111 rfl ?_
      refine z_icmp_le d_Mod_reads_111 116 114 (by decide) rfl (fun h3 => ?_) (fun h3 => ?_)
      · have e3 : f3 mt p q rd = f4 mt p 9 (-1) (q + 2) (upd rd 2 (sg mt p (q + 1) - 48)) := by unfold f3; rw [if_pos e1, if_pos e2, if_pos h3]
        rw [e3]
        have hq2 : q + 1 < p := sg_lt (mt := mt) (fun e => by rw [e] at e2; exact absurd e2 (by decide))
        refine z_aload_n d_Mod_reads_116 rfl 117 rfl ?_
        refine z_get d_Mod_reads_117 120 rfl fl_Mod_22_11 wm_45 rfl ?_
        refine z_iconst d_Mod_reads_120 2 (by decide) 121 rfl ?_
        refine z_aload_n d_Mod_reads_121 rfl 122 rfl ?_
        refine z_invv d_Mod_reads_122 125 rfl hm_Mod_sign lk_Mod_42 im_Mod_sign sl_Mod_Mod_sign rfl wm_45 (r_Mod_sign (q := q + 1) hp hq1 hsc) rfl rfl (by decide) rfl rfl (Nat.le_of_ble_eq_true rfl) ?_
        refine z_bipush d_Mod_reads_125 48 (by decide) 127 rfl ?_
        refine z_isub d_Mod_reads_127 128 rfl ?_
        refine z_iastore d_Mod_reads_128 2 129 rfl wm_50 rfl (by decide) (by decide) ?_
        refine z_hp ws_50 ?_
        refine z_aload_n d_Mod_reads_129 rfl 130 rfl ?_
        refine z_dup d_Mod_reads_130 rfl 131 rfl ?_
        refine z_get d_Mod_reads_131 134 rfl fl_Mod_39_11 wm_45 rfl ?_
        refine z_top (.int (nI (q + 1))) (by first | rfl | exact congrArg Value.int hsc) ?_
        refine z_iconst d_Mod_reads_134 1 (by decide) 135 rfl ?_
        refine z_iadd d_Mod_reads_135 136 rfl ?_
        refine z_putI d_Mod_reads_136 139 rfl fp_Mod_39_11 (Or.inl rfl) wm_45 (by simp) ?_
        refine z_hp (wp_45_7.trans (by rw [uu, show nI (q + 1) + 1 = nI (q + 2) from nI_1 (q + 1)])) ?_
        refine z_iconst d_Mod_reads_139 (-1) (by decide) 140 rfl ?_
        refine z_istore_n d_Mod_reads_140 141 rfl (by decide) rfl ?_
        exact z_Lw _ rfl (s_Mod_reads_141 hp hsc 9 (-1) (q + 2) _ (by decide) (by omega))
      · have e3 : f3 mt p q rd = (false, q + 1, rd) := by unfold f3; rw [if_pos e1, if_pos e2, if_neg h3]
        rw [e3]
        refine z_iconst d_Mod_reads_114 0 (by decide) 115 rfl ?_
        exact z_ireturn d_Mod_reads_115 (rfl) (by rfl)
set_option maxHeartbeats 400000 in
theorem s_Mod_reads_67 {X : zS} {K : zKK} {rf s im mt rd sc : Nat → Int32} {tl : List zC} {p : Nat} (hp : p ≤ 24) (hsc : sc 1 = nI p) (q : Nat) (hq : q ≤ p) : Z X m_Mod_reads 4 0 0 (some (.int (zb (f2 mt p q rd).1))) (wld K (rf, s, im, mt, (f2 mt p q rd).2.2, upd sc 2 (nI ((f2 mt p q rd).2.1))) tl) 67 [some (.ref 45), none] [] (wld K (rf, s, im, mt, rd, upd sc 2 (nI (q))) tl) := by
  refine z_aload_n d_Mod_reads_67 rfl 68 rfl ?_
  refine z_bipush d_Mod_reads_68 116 (by decide) 70 rfl ?_
  refine z_invv d_Mod_reads_70 73 rfl hm_Mod_takes lk_Mod_50 im_Mod_takes sl_Mod_Mod_takes rfl wm_45 (r_Mod_takes (q := q) hp (hq) hsc _) rfl rfl (by decide) rfl rfl (Nat.le_of_ble_eq_true rfl) ?_
  refine z_if_eq d_Mod_reads_73 87 76 (by decide) rfl (fun h1 => ?_) (fun h1 => ?_)
  · have e1 : ¬ sg mt p q = 116 := of_decide_eq_false ((zb_eq _).mp h1)
    refine z_hp (hp1 := wld K (rf, s, im, mt, rd, upd sc 2 (nI (q))) tl) (by rw [if_neg e1]) ?_
    have e2 : f2 mt p q rd = f3 mt p q rd := by unfold f2; rw [if_neg e1]
    rw [e2]
    exact z_Lw _ rfl (s_Mod_reads_87 hp hsc q hq)
  · have e1 : sg mt p q = 116 := of_decide_eq_true ((zb_ne _).mp h1)
    have hq1 : q < p := sg_lt (mt := mt) (by rw [e1]; decide)
    refine z_hp (hp1 := wld K (rf, s, im, mt, rd, upd sc 2 (nI (q + 1))) tl) (by rw [if_pos e1]) ?_
    refine z_aload_n d_Mod_reads_76 rfl 77 rfl ?_
    refine z_iconst d_Mod_reads_77 1 (by decide) 78 rfl ?_
    refine z_iconst d_Mod_reads_78 3 (by decide) 79 rfl ?_
    refine z_invv d_Mod_reads_79 82 rfl hm_Mod_readsNumber lk_Mod_54 im_Mod_readsNumber sl_Mod_Mod_readsNumber rfl wm_45 (r_Mod_readsNumber (q := q + 1) (k := 1) (m := 3) hp hq1 hsc (by decide) (by decide)) rfl rfl (by decide) rfl rfl (Nat.le_of_ble_eq_true rfl) ?_
    refine z_if_ne d_Mod_reads_82 87 85 (by decide) rfl (fun h2 => ?_) (fun h2 => ?_)
    · have e2 : dg mt p (q + 1) = true := (zb_ne _).mp h2
      refine z_hp (hp1 := wld K (rf, s, im, mt, upd rd 1 (rnm mt p 3 (q + 1) 0).2, upd sc 2 (nI ((rnm mt p 3 (q + 1) 0).1))) tl) (by rw [if_pos e2, if_pos e2]) ?_
      have hy1 := rnm_le (mt := mt) (p := p) 3 (q + 1) 0 hq1
      have e3 : f2 mt p q rd = f3 mt p (rnm mt p 3 (q + 1) 0).1 (upd rd 1 (rnm mt p 3 (q + 1) 0).2) := by unfold f2; rw [if_pos e1, if_pos e2]
      rw [e3]
      exact z_Lw _ rfl (s_Mod_reads_87 hp hsc _ hy1.2) --done
    · have e2 : dg mt p (q + 1) = false := (zb_eq _).mp h2
      refine z_hp (hp1 := wld K (rf, s, im, mt, rd, upd sc 2 (nI (q + 1))) tl) (by rw [if_neg (by rw [e2]; decide), if_neg (by rw [e2]; decide)]) ?_
      have e3 : f2 mt p q rd = (false, q + 1, rd) := by unfold f2; rw [if_pos e1, if_neg (by rw [e2]; decide)]
      rw [e3]
      refine z_iconst d_Mod_reads_85 0 (by decide) 86 rfl ?_
      exact z_ireturn d_Mod_reads_86 (rfl) (by rfl)
set_option maxHeartbeats 400000 in
theorem s_Mod_reads_47 {X : zS} {K : zKK} {rf s im mt rd sc : Nat → Int32} {tl : List zC} {p : Nat} (hp : p ≤ 24) (hsc : sc 1 = nI p) (q : Nat) (hq : q ≤ p) : Z X m_Mod_reads 4 0 0 (some (.int (zb (f1 mt p q rd).1))) (wld K (rf, s, im, mt, (f1 mt p q rd).2.2, upd sc 2 (nI ((f1 mt p q rd).2.1))) tl) 47 [some (.ref 45), none] [] (wld K (rf, s, im, mt, rd, upd sc 2 (nI (q))) tl) := by
  refine z_aload_n d_Mod_reads_47 rfl 48 rfl ?_
  refine z_bipush d_Mod_reads_48 115 (by decide) 50 rfl ?_
  refine z_invv d_Mod_reads_50 53 rfl hm_Mod_takes lk_Mod_50 im_Mod_takes sl_Mod_Mod_takes rfl wm_45 (r_Mod_takes (q := q) hp (hq) hsc _) rfl rfl (by decide) rfl rfl (Nat.le_of_ble_eq_true rfl) ?_
  refine z_if_eq d_Mod_reads_53 67 56 (by decide) rfl (fun h1 => ?_) (fun h1 => ?_)
  · have e1 : ¬ sg mt p q = 115 := of_decide_eq_false ((zb_eq _).mp h1)
    refine z_hp (hp1 := wld K (rf, s, im, mt, rd, upd sc 2 (nI (q))) tl) (by rw [if_neg e1]) ?_
    have e2 : f1 mt p q rd = f2 mt p q rd := by unfold f1; rw [if_neg e1]
    rw [e2]
    exact z_Lw _ rfl (s_Mod_reads_67 hp hsc q hq)
  · have e1 : sg mt p q = 115 := of_decide_eq_true ((zb_ne _).mp h1)
    have hq1 : q < p := sg_lt (mt := mt) (by rw [e1]; decide)
    refine z_hp (hp1 := wld K (rf, s, im, mt, rd, upd sc 2 (nI (q + 1))) tl) (by rw [if_pos e1]) ?_
    refine z_aload_n d_Mod_reads_56 rfl 57 rfl ?_
    refine z_iconst d_Mod_reads_57 0 (by decide) 58 rfl ?_
    refine z_iconst d_Mod_reads_58 3 (by decide) 59 rfl ?_
    refine z_invv d_Mod_reads_59 62 rfl hm_Mod_readsNumber lk_Mod_54 im_Mod_readsNumber sl_Mod_Mod_readsNumber rfl wm_45 (r_Mod_readsNumber (q := q + 1) (k := 0) (m := 3) hp hq1 hsc (by decide) (by decide)) rfl rfl (by decide) rfl rfl (Nat.le_of_ble_eq_true rfl) ?_
    refine z_if_ne d_Mod_reads_62 67 65 (by decide) rfl (fun h2 => ?_) (fun h2 => ?_)
    · have e2 : dg mt p (q + 1) = true := (zb_ne _).mp h2
      refine z_hp (hp1 := wld K (rf, s, im, mt, upd rd 0 (rnm mt p 3 (q + 1) 0).2, upd sc 2 (nI ((rnm mt p 3 (q + 1) 0).1))) tl) (by rw [if_pos e2, if_pos e2]) ?_
      have hy1 := rnm_le (mt := mt) (p := p) 3 (q + 1) 0 hq1
      have e3 : f1 mt p q rd = f2 mt p (rnm mt p 3 (q + 1) 0).1 (upd rd 0 (rnm mt p 3 (q + 1) 0).2) := by unfold f1; rw [if_pos e1, if_pos e2]
      rw [e3]
      exact z_Lw _ rfl (s_Mod_reads_67 hp hsc _ hy1.2) --done
    · have e2 : dg mt p (q + 1) = false := (zb_eq _).mp h2
      refine z_hp (hp1 := wld K (rf, s, im, mt, rd, upd sc 2 (nI (q + 1))) tl) (by rw [if_neg (by rw [e2]; decide), if_neg (by rw [e2]; decide)]) ?_
      have e3 : f1 mt p q rd = (false, q + 1, rd) := by unfold f1; rw [if_pos e1, if_neg (by rw [e2]; decide)]
      rw [e3]
      refine z_iconst d_Mod_reads_65 0 (by decide) 66 rfl ?_
      exact z_ireturn d_Mod_reads_66 (rfl) (by rfl)
