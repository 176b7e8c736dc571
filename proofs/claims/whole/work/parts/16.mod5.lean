/-- fewer known locals -/
def zLw : List (Option Value) → List (Option Value) → Bool
  | [], [] => true
  | _ :: a, none :: b => zLw a b
  | some v :: a, some w :: b => decide (v = w) && zLw a b
  | _, _ => false
theorem zLw_at : ∀ (a b : List (Option Value)), zLw a b = true → ∀ (k : Nat) (v : Value), b[k]? = some (some v) → a[k]? = some (some v)
  | [], [], _, k, v, h => by simp at h
  | [], _ :: _, h, _, _, _ => by simp [zLw] at h
  | x :: a, [], h, _, _, _ => by cases x <;> simp [zLw] at h
  | x :: a, none :: b, h, k, v, hb => by
    have h' : zLw a b = true := by cases x <;> simpa [zLw] using h
    cases k with
    | zero => simp at hb
    | succ k => simpa using zLw_at a b h' k v (by simpa using hb)
  | none :: a, some w :: b, h, _, _, _ => by simp [zLw] at h
  | some u :: a, some w :: b, h, k, v, hb => by
    simp only [zLw, Bool.and_eq_true, decide_eq_true_eq] at h
    obtain ⟨rfl, h'⟩ := h
    cases k with
    | zero => simpa using hb
    | succ k => simpa using zLw_at a b h' k v (by simpa using hb)
theorem z_Lw {X : zS} {M : zM} {d kc ks : Nat} {r : Option Value} {hp' : List zC} {pc : Nat} {L : List (Option Value)} {st : List Value} {hp : List zC} (L1 : List (Option Value)) (e : zLw L L1 = true) (k : Z X M d kc ks r hp' pc L1 st hp) : Z X M d kc ks r hp' pc L st hp := by
  intro G B p l e' R s m args below meth c Q H locs cells slots ls A F h hS h1 h2 h3 h4 hl
  refine k G B p l e' R s m args below meth c Q H locs cells slots ls A F h hS h1 h2 h3 h4 ⟨hl.1, hl.2.1, fun q hq => ?_⟩
  obtain ⟨i, v, hi, rfl⟩ := zl_inv B G.2.2 L1 0 q hq
  rw [Nat.zero_add]
  exact zl_at hl (zLw_at L L1 e i v hi)
theorem r_Mod_common_0 {hp : List zC} (d x : Nat) : Ret d 0 0 m_Mod_common [.int (nI x), .int (nI 0)] hp (some (.int (nI x))) hp := by
  refine Ret.of (n := 0) (by decide) (rfl) rfl (fun X => ?_)
  refine z_iload_n d_Mod_common_0 rfl 1 rfl ?_
  refine z_if_ne d_Mod_common_1 8 4 (by decide) rfl (fun h => absurd rfl h) (fun h1 => ?_)
  refine z_iload_n d_Mod_common_4 rfl 5 rfl ?_
  refine z_goto d_Mod_common_5 15 (by decide) ?_
  exact z_ireturn d_Mod_common_15 rfl rfl
theorem r_Mod_common_s {hp : List zC} (d x y g : Nat) (hx : x < 2 ^ 31) (hy : y < 2 ^ 31) (h0 : 0 < y) (hc : Ret d 0 0 m_Mod_common [.int (nI y), .int (nI (x % y))] hp (some (.int (nI g))) hp) : Ret (d + 1) 0 0 m_Mod_common [.int (nI x), .int (nI y)] hp (some (.int (nI g))) hp := by
  refine Ret.of (n := 0) (by decide) (rfl) rfl (fun X => ?_)
  refine z_iload_n d_Mod_common_0 rfl 1 rfl ?_
  refine z_if_ne d_Mod_common_1 8 4 (by decide) rfl (fun h1 => ?_) (fun h => absurd h (nI_ne0 h0 hy))
  refine z_iload_n d_Mod_common_8 rfl 9 rfl ?_
  refine z_iload_n d_Mod_common_9 rfl 10 rfl ?_
  refine z_iload_n d_Mod_common_10 rfl 11 rfl ?_
  refine z_irem d_Mod_common_11 (nI_ne0 h0 hy) 12 rfl ?_
  refine z_top (.int (nI (x % y))) (by rw [pk_rem hx h0 hy]) ?_
  refine z_invs d_Mod_common_12 15 rfl hm_Mod_common lk_Mod_99 st_Mod_common hc rfl rfl (Nat.le_refl _) rfl rfl (Nat.le_of_ble_eq_true rfl) ?_
  exact z_ireturn d_Mod_common_15 rfl rfl
theorem r_Mod_common_k {hp : List zC} : ∀ (k x y : Nat), x < 2 ^ 31 → y < 2 ^ 31 → y < 2 ^ k → Ret (2 * k) 0 0 m_Mod_common [.int (nI x), .int (nI y)] hp (some (.int (nI (Nat.gcd x y)))) hp
  | 0, x, y, hx, hy, hk => by
    have : y = 0 := by simpa using hk
    subst this
    rw [Nat.gcd_zero_right]
    exact r_Mod_common_0 _ x
  | k + 1, x, y, hx, hy, hk => by
    rcases Nat.eq_zero_or_pos y with rfl | h0
    · rw [Nat.gcd_zero_right]
      exact r_Mod_common_0 _ x
    · have hr : x % y < y := Nat.mod_lt x h0
      rw [show Nat.gcd x y = Nat.gcd y (x % y) by rw [Nat.gcd_comm x y, Nat.gcd_rec, Nat.gcd_comm]]
      rcases Nat.eq_zero_or_pos (x % y) with h1 | h1
      · rw [h1, Nat.gcd_zero_right]
        exact r_Mod_common_s (2 * k + 1) x y y hx hy h0 (by rw [h1]; exact r_Mod_common_0 _ y)
      · have h2 : y % (x % y) < 2 ^ k := by
          have a := Nat.mod_lt y h1
          have b := Nat.div_add_mod y (x % y)
          have c : 1 ≤ y / (x % y) := (Nat.one_le_div_iff h1).mpr (Nat.le_of_lt hr)
          have e : x % y ≤ (x % y) * (y / (x % y)) := Nat.le_mul_of_pos_right _ c
          rw [Nat.pow_succ] at hk
          omega
        refine r_Mod_common_s (2 * k + 1) x y _ hx hy h0 ?_
        refine r_Mod_common_s (2 * k) y (x % y) _ hy (by omega) h1 ?_
        rw [show Nat.gcd y (x % y) = Nat.gcd (x % y) (y % (x % y)) by rw [Nat.gcd_comm y, Nat.gcd_rec, Nat.gcd_comm]]
        exact r_Mod_common_k k (x % y) (y % (x % y)) (by omega) (Nat.lt_of_le_of_lt (Nat.mod_le _ _) hy) h2
theorem r_Mod_common {hp : List zC} (a b : Int32) (x y : Nat) (ha : a = nI x) (hb : b = nI y) (hx : x < 2 ^ 31) (hy : y < 32768) : Ret 30 0 0 m_Mod_common [.int a, .int b] hp (some (.int (nI (Nat.gcd x y)))) hp := by
  subst ha
  subst hb
  exact r_Mod_common_k 15 x y hx (by omega) (by omega)
set_option maxHeartbeats 400000 in
theorem r_Mod_partOf {hp : List zC} (a b p : Int32) (x y : Nat) (ha : a = nI x) (hb : b = nI y) (hx : x < 2 ^ 31) (hy : y < 32768) (h0 : 0 < y) : Ret 31 0 0 m_Mod_partOf [.int a, .int b, .int p] (hp) (some (.int (psV x y p))) (hp) := by
  subst ha
  subst hb
  have hg : 0 < Nat.gcd x y := Nat.gcd_pos_of_pos_right x h0
  have hg2 : Nat.gcd x y ≤ y := Nat.gcd_le_right x h0
  refine Ret.of (n := 1) (by decide) (rfl) rfl (fun X => ?_)
  refine z_iload_n d_Mod_partOf_0 rfl 1 rfl ?_
  refine z_iload_n d_Mod_partOf_1 rfl 2 rfl ?_
  refine z_invs d_Mod_partOf_2 5 rfl hm_Mod_common lk_Mod_99 st_Mod_common (r_Mod_common _ _ x y rfl rfl hx hy) rfl rfl (by decide) rfl rfl (Nat.le_of_ble_eq_true rfl) ?_
  refine z_istore_n d_Mod_partOf_5 6 rfl (by decide) rfl ?_
  refine z_iload_n d_Mod_partOf_6 rfl 7 rfl ?_
  refine z_if_ne d_Mod_partOf_7 16 10 (by decide) rfl (fun h1 => ?_) (fun h1 => ?_)
  · refine z_iload_n d_Mod_partOf_16 rfl 17 rfl ?_
    refine z_iload_n d_Mod_partOf_17 rfl 18 rfl ?_
    refine z_idiv d_Mod_partOf_18 (nI_ne0 hg (by omega)) 19 rfl ?_
    exact z_ireturn d_Mod_partOf_19 (by simp only [psV]; simp [*, pk_div hx hg (show Nat.gcd x y < 2 ^ 31 by omega), pk_div (show y < 2 ^ 31 by omega) hg (show Nat.gcd x y < 2 ^ 31 by omega)]) (rfl)
  · refine z_iload_n d_Mod_partOf_10 rfl 11 rfl ?_
    refine z_iload_n d_Mod_partOf_11 rfl 12 rfl ?_
    refine z_idiv d_Mod_partOf_12 (nI_ne0 hg (by omega)) 13 rfl ?_
    refine z_goto d_Mod_partOf_13 19 (by decide) ?_
    exact z_ireturn d_Mod_partOf_19 (by simp only [psV]; simp [*, pk_div hx hg (show Nat.gcd x y < 2 ^ 31 by omega), pk_div (show y < 2 ^ 31 by omega) hg (show Nat.gcd x y < 2 ^ 31 by omega)]) (rfl)
set_option maxHeartbeats 400000 in
theorem r_Mod_share {K : zKK} {rf s im mt rd sc : Nat → Int32} {tl : List zC} {n : Nat} (hn : s 0 = nI n) (hn30 : n ≤ 30) (hz0 : NZ s n) (A : Nat) (Fi : Nat → Nat) (hA : wsV1 s n = nI A) (hAb : A < 32768) (hF : ∀ l, l < 6 → wsV2 s n l = nI (Fi l)) (hFb : ∀ l, Fi l < 2 ^ 31) (l p : Int32) : Ret 32 0 0 m_Mod_share [.ref 45, .int l, .int p] (wld K (rf, s, im, mt, rd, sc) tl) (some (.int ((if inR l 6 = true then (if inR p 2 = true then (if wsV1 s n = 0 then 1000000003 else psV (Fi (ix l)) A p) else 1000000002) else 1000000001)))) (wld K ((if inR l 6 = true then (if inR p 2 = true then (if wsV1 s n = 0 then rfu rf 3 else rf) else rfu rf 2) else rfu rf 1), s, im, mt, rd, sc) tl) := by
  refine Ret.of (n := 3) (by decide) (rfl) rfl (fun X => ?_)
  refine z_iload_n d_Mod_share_0 rfl 1 rfl ?_
  refine z_invs d_Mod_share_1 4 rfl hm_Mod_isLaw lk_Mod_79 st_Mod_isLaw (r_Mod_isLaw _) rfl rfl (by decide) rfl rfl (Nat.le_of_ble_eq_true rfl) ?_
  refine z_if_ne d_Mod_share_4 16 7 (by decide) rfl (fun h1 => ?_) (fun h1 => ?_)
  · obtain ⟨i2, hi2, rfl⟩ := vld h1 (n := 6) rfl (by decide)
    have hci2 : (nI i2).toNatClampNeg = i2 := nI_clamp (by omega)
    refine z_iload_n d_Mod_share_16 rfl 17 rfl ?_
    refine z_iconst d_Mod_share_17 2 (by decide) 18 rfl ?_
    refine z_invs d_Mod_share_18 21 rfl hm_Mod_isIn lk_Mod_25 st_Mod_isIn (r_Mod_isIn _ _) rfl rfl (by decide) rfl rfl (Nat.le_of_ble_eq_true rfl) ?_
    refine z_if_ne d_Mod_share_21 34 24 (by decide) rfl (fun h3 => ?_) (fun h3 => ?_)
    · obtain ⟨i4, hi4, rfl⟩ := vld h3 (n := 2) rfl (by decide)
      have hci4 : (nI i4).toNatClampNeg = i4 := nI_clamp (by omega)
      refine z_iconst d_Mod_share_34 0 (by decide) 35 rfl ?_
      refine z_istore_n d_Mod_share_35 36 rfl (by decide) rfl ?_
      refine z_iconst d_Mod_share_36 0 (by decide) 37 rfl ?_
      refine z_istore d_Mod_share_37 39 rfl (by decide) rfl ?_
      refine z_iconst d_Mod_share_39 0 (by decide) 40 rfl ?_
      refine z_istore d_Mod_share_40 42 rfl (by decide) rfl ?_
      refine zloop (fun t => Z X m_Mod_share 32 0 0 (some (.int ((if inR (nI i2) 6 = true then (if inR (nI i4) 2 = true then (if wsV1 s n = 0 then 1000000003 else psV (Fi (ix (nI i2))) A (nI i4)) else 1000000002) else 1000000001)))) (wld K ((if inR (nI i2) 6 = true then (if inR (nI i4) 2 = true then (if wsV1 s n = 0 then rfu rf 3 else rf) else rfu rf 2) else rfu rf 1), s, im, mt, rd, sc) tl) 42 [some (.ref 45), some (.int (nI i2)), some (.int (nI i4)), some (.int (sm (fun t => wtV (s (6 + 6 * t + 1)) (s (6 + 6 * t + 3)) (s (6 + 6 * t + 4)) (s (6 + 6 * t + 5))) t)), some (.int (sm (fun t => if fit s t i2 0 = true then wtV (s (6 + 6 * t + 1)) (s (6 + 6 * t + 3)) (s (6 + 6 * t + 4)) (s (6 + 6 * t + 5)) else 0) t)), some (.int (nI t))] [] (wld K (rf, s, im, mt, rd, sc) tl)) (n) ?_ ?_ 0 (Nat.zero_le _)
      · refine z_iload d_Mod_share_42 rfl 44 rfl ?_
        refine z_aload_n d_Mod_share_44 rfl 45 rfl ?_
        refine z_get d_Mod_share_45 48 rfl fl_Mod_13_11 wm_45 rfl ?_
        refine z_iconst d_Mod_share_48 0 (by decide) 49 rfl ?_
        refine z_iaload d_Mod_share_49 (0) 50 rfl wm_47 (rfl) (by omega) (by decide) ?_
        refine z_icmp_ge d_Mod_share_50 94 53 (by decide) rfl (fun h5 => ?_) (fun h => absurd (by rw [hn]; exact Int32.le_refl _) h)
        refine z_iload_n d_Mod_share_94 rfl 95 rfl ?_
        refine z_if_ne d_Mod_share_95 110 98 (by decide) rfl (fun h6 => ?_) (fun h6 => ?_)
        · refine z_iload d_Mod_share_110 rfl 112 rfl ?_
          refine z_iload_n d_Mod_share_112 rfl 113 rfl ?_
          refine z_iload_n d_Mod_share_113 rfl 114 rfl ?_
          refine z_invs d_Mod_share_114 117 rfl hm_Mod_partOf lk_Mod_103 st_Mod_partOf (r_Mod_partOf _ _ _ (Fi i2) A (hF i2 hi2) hA (hFb i2) hAb (by
  rcases Nat.eq_zero_or_pos A with h | h
  · exact absurd (show wsV1 s n = 0 by rw [hA, h]; rfl) h6
  · exact h)) rfl rfl (by decide) rfl rfl (Nat.le_of_ble_eq_true rfl) ?_
          exact z_ireturn d_Mod_share_117 (by rw [if_pos ((zb_ne _).mp h1), if_pos ((zb_ne _).mp h3),  if_neg (show ¬ wsV1 s n = 0 from h6), show ix (nI i2) = i2 from hci2]) (by rw [if_pos ((zb_ne _).mp h1), if_pos ((zb_ne _).mp h3),  if_neg (show ¬ wsV1 s n = 0 from h6)])
        · refine z_ldc d_Mod_share_98 kn_Mod_102 100 rfl ?_
          refine z_aload_n d_Mod_share_100 rfl 101 rfl ?_
          refine z_bipush d_Mod_share_101 (-3) (by decide) 103 rfl ?_
          refine z_invv d_Mod_share_103 106 rfl hm_Mod_refuse lk_Mod_29 im_Mod_refuse sl_Mod_Mod_refuse rfl wm_45 (r_Mod_refuse (-3) 3 (by decide) (by decide)) rfl rfl (by decide) rfl rfl (Nat.le_of_ble_eq_true rfl) ?_
          refine z_isub d_Mod_share_106 107 rfl ?_
          refine z_goto d_Mod_share_107 117 (by decide) ?_
          exact z_ireturn d_Mod_share_117 (by rw [if_pos ((zb_ne _).mp h1), if_pos ((zb_ne _).mp h3),  if_pos (show wsV1 s n = 0 from h6)]; rfl) (by rw [if_pos ((zb_ne _).mp h1), if_pos ((zb_ne _).mp h3),  if_pos (show wsV1 s n = 0 from h6)]; rfl)
      · intro t ht ih
        refine z_iload d_Mod_share_42 rfl 44 rfl ?_
        refine z_aload_n d_Mod_share_44 rfl 45 rfl ?_
        refine z_get d_Mod_share_45 48 rfl fl_Mod_13_11 wm_45 rfl ?_
        refine z_iconst d_Mod_share_48 0 (by decide) 49 rfl ?_
        refine z_iaload d_Mod_share_49 (0) 50 rfl wm_47 (rfl) (by omega) (by decide) ?_
        refine z_icmp_ge d_Mod_share_50 94 53 (by decide) rfl (fun h => absurd h (by rw [hn]; exact nI_ge ht (by omega))) (fun h7 => ?_)
        refine z_iload_n d_Mod_share_53 rfl 54 rfl ?_
        refine z_aload_n d_Mod_share_54 rfl 55 rfl ?_
        refine z_iload d_Mod_share_55 rfl 57 rfl ?_
        refine z_invv d_Mod_share_57 60 rfl hm_Mod_weightOf lk_Mod_76 im_Mod_weightOf sl_Mod_Mod_weightOf rfl wm_45 (r_Mod_weightOf _ (t) rfl (by omega)) rfl rfl (by decide) rfl rfl (Nat.le_of_ble_eq_true rfl) ?_
        refine z_iadd d_Mod_share_60 61 rfl ?_
        refine z_istore_n d_Mod_share_61 62 rfl (by decide) rfl ?_
        refine z_iload d_Mod_share_62 rfl 64 rfl ?_
        refine z_aload_n d_Mod_share_64 rfl 65 rfl ?_
        refine z_iload d_Mod_share_65 rfl 67 rfl ?_
        refine z_iload_n d_Mod_share_67 rfl 68 rfl ?_
        refine z_iconst d_Mod_share_68 0 (by decide) 69 rfl ?_
        refine z_invv d_Mod_share_69 72 rfl hm_Mod_isFit lk_Mod_96 im_Mod_isFit sl_Mod_Mod_isFit rfl wm_45 (r_Mod_isFit _ _ _ (t) (i2) rfl rfl (by omega) (by omega) (hz0 _ (by omega))) rfl rfl (by decide) rfl rfl (Nat.le_of_ble_eq_true rfl) ?_
        refine z_if_eq d_Mod_share_72 84 75 (by decide) rfl (fun h8 => ?_) (fun h8 => ?_)
        · refine z_iconst d_Mod_share_84 0 (by decide) 85 rfl ?_
          refine z_iadd d_Mod_share_85 86 rfl ?_
          refine z_istore d_Mod_share_86 88 rfl (by decide) rfl ?_
          refine z_iinc d_Mod_share_88 1 (by decide) 91 rfl rfl (by decide) rfl ?_
          refine z_goto d_Mod_share_91 42 (by decide) ?_
          exact z_L _ (by simp_all [List.set, nI_succ, sm, zb_eq, zb_ne]) ih
        · refine z_aload_n d_Mod_share_75 rfl 76 rfl ?_
          refine z_iload d_Mod_share_76 rfl 78 rfl ?_
          refine z_invv d_Mod_share_78 81 rfl hm_Mod_weightOf lk_Mod_76 im_Mod_weightOf sl_Mod_Mod_weightOf rfl wm_45 (r_Mod_weightOf _ (t) rfl (by omega)) rfl rfl (by decide) rfl rfl (Nat.le_of_ble_eq_true rfl) ?_
          refine z_goto d_Mod_share_81 85 (by decide) ?_
          refine z_iadd d_Mod_share_85 86 rfl ?_
          refine z_istore d_Mod_share_86 88 rfl (by decide) rfl ?_
          refine z_iinc d_Mod_share_88 1 (by decide) 91 rfl rfl (by decide) rfl ?_
          refine z_goto d_Mod_share_91 42 (by decide) ?_
          exact z_L _ (by simp_all [List.set, nI_succ, sm, zb_eq, zb_ne]) ih
    · refine z_ldc d_Mod_share_24 kn_Mod_102 26 rfl ?_
      refine z_aload_n d_Mod_share_26 rfl 27 rfl ?_
      refine z_bipush d_Mod_share_27 (-2) (by decide) 29 rfl ?_
      refine z_invv d_Mod_share_29 32 rfl hm_Mod_refuse lk_Mod_29 im_Mod_refuse sl_Mod_Mod_refuse rfl wm_45 (r_Mod_refuse (-2) 2 (by decide) (by decide)) rfl rfl (by decide) rfl rfl (Nat.le_of_ble_eq_true rfl) ?_
      refine z_isub d_Mod_share_32 33 rfl ?_
      exact z_ireturn d_Mod_share_33 (by simp_all [zb_eq, zb_ne, ← Int32.not_le]) (by simp_all [zb_eq, zb_ne, rfu, ← Int32.not_le])
  · refine z_ldc d_Mod_share_7 kn_Mod_102 9 rfl ?_
    refine z_aload_n d_Mod_share_9 rfl 10 rfl ?_
    refine z_iconst d_Mod_share_10 (-1) (by decide) 11 rfl ?_
    refine z_invv d_Mod_share_11 14 rfl hm_Mod_refuse lk_Mod_29 im_Mod_refuse sl_Mod_Mod_refuse rfl wm_45 (r_Mod_refuse (-1) 1 (by decide) (by decide)) rfl rfl (by decide) rfl rfl (Nat.le_of_ble_eq_true rfl) ?_
    refine z_isub d_Mod_share_14 15 rfl ?_
    exact z_ireturn d_Mod_share_15 (by simp_all [zb_eq, zb_ne, ← Int32.not_le]) (by simp_all [zb_eq, zb_ne, rfu, ← Int32.not_le])
set_option maxHeartbeats 400000 in
theorem r_Mod_together {K : zKK} {rf s im mt rd sc : Nat → Int32} {tl : List zC} {n : Nat} (hn : s 0 = nI n) (hn30 : n ≤ 30) (a b : Int32) : Ret 3 0 0 m_Mod_together [.ref 45, .int a, .int b] (wld K (rf, s, im, mt, rd, sc) tl) (some (.int ((if inR a 8 = true then (if inR b 8 = true then (if sm (fun t => if mkd (s (6 + 6 * t + 3)) a = true then 1 else 0) n = 0 then 1000000003 else (if sm (fun t => if mkd (s (6 + 6 * t + 3)) a = true then 0 else 1) n = 0 then 1000000003 else 100 * sm (fun t => if mkd (s (6 + 6 * t + 3)) a = true then (if mkd (s (6 + 6 * t + 3)) b = true then 1 else 0) else 0) n / sm (fun t => if mkd (s (6 + 6 * t + 3)) a = true then 1 else 0) n - 100 * sm (fun t => if mkd (s (6 + 6 * t + 3)) a = true then 0 else (if mkd (s (6 + 6 * t + 3)) b = true then 1 else 0)) n / sm (fun t => if mkd (s (6 + 6 * t + 3)) a = true then 0 else 1) n)) else 1000000001) else 1000000001)))) (wld K ((if inR a 8 = true then (if inR b 8 = true then (if sm (fun t => if mkd (s (6 + 6 * t + 3)) a = true then 1 else 0) n = 0 then rfu rf 3 else (if sm (fun t => if mkd (s (6 + 6 * t + 3)) a = true then 0 else 1) n = 0 then rfu rf 3 else rf)) else rfu rf 1) else rfu rf 1), s, im, mt, rd, sc) tl) := by
  refine Ret.of (n := 5) (by decide) (rfl) rfl (fun X => ?_)
  refine z_iload_n d_Mod_together_0 rfl 1 rfl ?_
  refine z_bipush d_Mod_together_1 8 (by decide) 3 rfl ?_
  refine z_invs d_Mod_together_3 6 rfl hm_Mod_isIn lk_Mod_25 st_Mod_isIn (r_Mod_isIn _ _) rfl rfl (by decide) rfl rfl (Nat.le_of_ble_eq_true rfl) ?_
  refine z_if_eq d_Mod_together_6 18 9 (by decide) rfl (fun h1 => ?_) (fun h1 => ?_)
  · refine z_ldc d_Mod_together_18 kn_Mod_102 20 rfl ?_
    refine z_aload_n d_Mod_together_20 rfl 21 rfl ?_
    refine z_iconst d_Mod_together_21 (-1) (by decide) 22 rfl ?_
    refine z_invv d_Mod_together_22 25 rfl hm_Mod_refuse lk_Mod_29 im_Mod_refuse sl_Mod_Mod_refuse rfl wm_45 (r_Mod_refuse (-1) 1 (by decide) (by decide)) rfl rfl (by decide) rfl rfl (Nat.le_of_ble_eq_true rfl) ?_
    refine z_isub d_Mod_together_25 26 rfl ?_
    exact z_ireturn d_Mod_together_26 (by simp_all [zb_eq, zb_ne, ← Int32.not_le]) (by simp_all [zb_eq, zb_ne, rfu, ← Int32.not_le])
  · obtain ⟨i2, hi2, rfl⟩ := vld h1 (n := 8) rfl (by decide)
    have hci2 : (nI i2).toNatClampNeg = i2 := nI_clamp (by omega)
    refine z_iload_n d_Mod_together_9 rfl 10 rfl ?_
    refine z_bipush d_Mod_together_10 8 (by decide) 12 rfl ?_
    refine z_invs d_Mod_together_12 15 rfl hm_Mod_isIn lk_Mod_25 st_Mod_isIn (r_Mod_isIn _ _) rfl rfl (by decide) rfl rfl (Nat.le_of_ble_eq_true rfl) ?_
    refine z_if_ne d_Mod_together_15 27 18 (by decide) rfl (fun h3 => ?_) (fun h3 => ?_)
    · obtain ⟨i4, hi4, rfl⟩ := vld h3 (n := 8) rfl (by decide)
      have hci4 : (nI i4).toNatClampNeg = i4 := nI_clamp (by omega)
      refine z_iconst d_Mod_together_27 0 (by decide) 28 rfl ?_
      refine z_istore_n d_Mod_together_28 29 rfl (by decide) rfl ?_
      refine z_iconst d_Mod_together_29 0 (by decide) 30 rfl ?_
      refine z_istore d_Mod_together_30 32 rfl (by decide) rfl ?_
      refine z_iconst d_Mod_together_32 0 (by decide) 33 rfl ?_
      refine z_istore d_Mod_together_33 35 rfl (by decide) rfl ?_
      refine z_iconst d_Mod_together_35 0 (by decide) 36 rfl ?_
      refine z_istore d_Mod_together_36 38 rfl (by decide) rfl ?_
      refine z_iconst d_Mod_together_38 0 (by decide) 39 rfl ?_
      refine z_istore d_Mod_together_39 41 rfl (by decide) rfl ?_
      refine zloop (fun t => Z X m_Mod_together 3 0 0 (some (.int ((if inR (nI i2) 8 = true then (if inR (nI i4) 8 = true then (if sm (fun t => if mkd (s (6 + 6 * t + 3)) (nI i2) = true then 1 else 0) n = 0 then 1000000003 else (if sm (fun t => if mkd (s (6 + 6 * t + 3)) (nI i2) = true then 0 else 1) n = 0 then 1000000003 else 100 * sm (fun t => if mkd (s (6 + 6 * t + 3)) (nI i2) = true then (if mkd (s (6 + 6 * t + 3)) (nI i4) = true then 1 else 0) else 0) n / sm (fun t => if mkd (s (6 + 6 * t + 3)) (nI i2) = true then 1 else 0) n - 100 * sm (fun t => if mkd (s (6 + 6 * t + 3)) (nI i2) = true then 0 else (if mkd (s (6 + 6 * t + 3)) (nI i4) = true then 1 else 0)) n / sm (fun t => if mkd (s (6 + 6 * t + 3)) (nI i2) = true then 0 else 1) n)) else 1000000001) else 1000000001)))) (wld K ((if inR (nI i2) 8 = true then (if inR (nI i4) 8 = true then (if sm (fun t => if mkd (s (6 + 6 * t + 3)) (nI i2) = true then 1 else 0) n = 0 then rfu rf 3 else (if sm (fun t => if mkd (s (6 + 6 * t + 3)) (nI i2) = true then 0 else 1) n = 0 then rfu rf 3 else rf)) else rfu rf 1) else rfu rf 1), s, im, mt, rd, sc) tl) 41 [some (.ref 45), some (.int ((nI i2))), some (.int ((nI i4))), some (.int (sm (fun t => if mkd (s (6 + 6 * t + 3)) (nI i2) = true then 1 else 0) t)), some (.int (sm (fun t => if mkd (s (6 + 6 * t + 3)) (nI i2) = true then (if mkd (s (6 + 6 * t + 3)) (nI i4) = true then 1 else 0) else 0) t)), some (.int (sm (fun t => if mkd (s (6 + 6 * t + 3)) (nI i2) = true then 0 else 1) t)), some (.int (sm (fun t => if mkd (s (6 + 6 * t + 3)) (nI i2) = true then 0 else (if mkd (s (6 + 6 * t + 3)) (nI i4) = true then 1 else 0)) t)), some (.int (nI t))] [] (wld K (rf, s, im, mt, rd, sc) tl)) (n) ?_ ?_ 0 (Nat.zero_le _)
      · refine z_iload d_Mod_together_41 rfl 43 rfl ?_
        refine z_aload_n d_Mod_together_43 rfl 44 rfl ?_
        refine z_get d_Mod_together_44 47 rfl fl_Mod_13_11 wm_45 rfl ?_
        refine z_iconst d_Mod_together_47 0 (by decide) 48 rfl ?_
        refine z_iaload d_Mod_together_48 (0) 49 rfl wm_47 (rfl) (by omega) (by decide) ?_
        refine z_icmp_ge d_Mod_together_49 117 52 (by decide) rfl (fun h5 => ?_) (fun h => absurd (by rw [hn]; exact Int32.le_refl _) h)
        refine z_iload_n d_Mod_together_117 rfl 118 rfl ?_
        refine z_if_eq d_Mod_together_118 126 121 (by decide) rfl (fun h6 => ?_) (fun h6 => ?_)
        · refine z_ldc d_Mod_together_126 kn_Mod_102 128 rfl ?_
          refine z_aload_n d_Mod_together_128 rfl 129 rfl ?_
          refine z_bipush d_Mod_together_129 (-3) (by decide) 131 rfl ?_
          refine z_invv d_Mod_together_131 134 rfl hm_Mod_refuse lk_Mod_29 im_Mod_refuse sl_Mod_Mod_refuse rfl wm_45 (r_Mod_refuse (-3) 3 (by decide) (by decide)) rfl rfl (by decide) rfl rfl (Nat.le_of_ble_eq_true rfl) ?_
          refine z_isub d_Mod_together_134 135 rfl ?_
          refine z_goto d_Mod_together_135 154 (by decide) ?_
          exact z_ireturn d_Mod_together_154 (by simp_all [zb_eq, zb_ne]) (by simp_all [zb_eq, zb_ne, rfu, ← Int32.not_le])
        · refine z_iload d_Mod_together_121 rfl 123 rfl ?_
          refine z_if_ne d_Mod_together_123 138 126 (by decide) rfl (fun h7 => ?_) (fun h7 => ?_)
          · refine z_bipush d_Mod_together_138 100 (by decide) 140 rfl ?_
            refine z_iload d_Mod_together_140 rfl 142 rfl ?_
            refine z_imul d_Mod_together_142 143 rfl ?_
            refine z_iload_n d_Mod_together_143 rfl 144 rfl ?_
            refine z_idiv d_Mod_together_144 (by assumption) 145 rfl ?_
            refine z_bipush d_Mod_together_145 100 (by decide) 147 rfl ?_
            refine z_iload d_Mod_together_147 rfl 149 rfl ?_
            refine z_imul d_Mod_together_149 150 rfl ?_
            refine z_iload d_Mod_together_150 rfl 152 rfl ?_
            refine z_idiv d_Mod_together_152 (by assumption) 153 rfl ?_
            refine z_isub d_Mod_together_153 154 rfl ?_
            exact z_ireturn d_Mod_together_154 (by simp_all [zb_eq, zb_ne]) (by simp_all [zb_eq, zb_ne, rfu, ← Int32.not_le])
          · refine z_ldc d_Mod_together_126 kn_Mod_102 128 rfl ?_
            refine z_aload_n d_Mod_together_128 rfl 129 rfl ?_
            refine z_bipush d_Mod_together_129 (-3) (by decide) 131 rfl ?_
            refine z_invv d_Mod_together_131 134 rfl hm_Mod_refuse lk_Mod_29 im_Mod_refuse sl_Mod_Mod_refuse rfl wm_45 (r_Mod_refuse (-3) 3 (by decide) (by decide)) rfl rfl (by decide) rfl rfl (Nat.le_of_ble_eq_true rfl) ?_
            refine z_isub d_Mod_together_134 135 rfl ?_
            refine z_goto d_Mod_together_135 154 (by decide) ?_
            exact z_ireturn d_Mod_together_154 (by simp_all [zb_eq, zb_ne]) (by simp_all [zb_eq, zb_ne, rfu, ← Int32.not_le])
      · intro t ht ih
        refine z_iload d_Mod_together_41 rfl 43 rfl ?_
        refine z_aload_n d_Mod_together_43 rfl 44 rfl ?_
        refine z_get d_Mod_together_44 47 rfl fl_Mod_13_11 wm_45 rfl ?_
        refine z_iconst d_Mod_together_47 0 (by decide) 48 rfl ?_
        refine z_iaload d_Mod_together_48 (0) 49 rfl wm_47 (rfl) (by omega) (by decide) ?_
        refine z_icmp_ge d_Mod_together_49 117 52 (by decide) rfl (fun h => absurd h (by rw [hn]; exact nI_ge ht (by omega))) (fun h8 => ?_)
        refine z_aload_n d_Mod_together_52 rfl 53 rfl ?_
        refine z_iload d_Mod_together_53 rfl 55 rfl ?_
        refine z_iload_n d_Mod_together_55 rfl 56 rfl ?_
        refine z_invv d_Mod_together_56 59 rfl hm_Mod_isMarked lk_Mod_70 im_Mod_isMarked sl_Mod_Mod_isMarked rfl wm_45 (r_Mod_isMarked _ _ (t) rfl (by omega)) rfl rfl (by decide) rfl rfl (Nat.le_of_ble_eq_true rfl) ?_
        refine z_if_eq d_Mod_together_59 88 62 (by decide) rfl (fun h9 => ?_) (fun h9 => ?_)
        · refine z_iinc d_Mod_together_88 1 (by decide) 91 rfl rfl (by decide) rfl ?_
          refine z_iload d_Mod_together_91 rfl 93 rfl ?_
          refine z_aload_n d_Mod_together_93 rfl 94 rfl ?_
          refine z_iload d_Mod_together_94 rfl 96 rfl ?_
          refine z_iload_n d_Mod_together_96 rfl 97 rfl ?_
          refine z_invv d_Mod_together_97 100 rfl hm_Mod_isMarked lk_Mod_70 im_Mod_isMarked sl_Mod_Mod_isMarked rfl wm_45 (r_Mod_isMarked _ _ (t) rfl (by omega)) rfl rfl (by decide) rfl rfl (Nat.le_of_ble_eq_true rfl) ?_
          refine z_if_eq d_Mod_together_100 107 103 (by decide) rfl (fun h10 => ?_) (fun h10 => ?_)
          · refine z_iconst d_Mod_together_107 0 (by decide) 108 rfl ?_
            refine z_iadd d_Mod_together_108 109 rfl ?_
            refine z_istore d_Mod_together_109 111 rfl (by decide) rfl ?_
            refine z_iinc d_Mod_together_111 1 (by decide) 114 rfl rfl (by decide) rfl ?_
            refine z_goto d_Mod_together_114 41 (by decide) ?_
            exact z_L _ (by simp_all [List.set, nI_succ, sm, zb_eq, zb_ne]) ih
          · refine z_iconst d_Mod_together_103 1 (by decide) 104 rfl ?_
            refine z_goto d_Mod_together_104 108 (by decide) ?_
            refine z_iadd d_Mod_together_108 109 rfl ?_
            refine z_istore d_Mod_together_109 111 rfl (by decide) rfl ?_
            refine z_iinc d_Mod_together_111 1 (by decide) 114 rfl rfl (by decide) rfl ?_
            refine z_goto d_Mod_together_114 41 (by decide) ?_
            exact z_L _ (by simp_all [List.set, nI_succ, sm, zb_eq, zb_ne]) ih
        · refine z_iinc d_Mod_together_62 1 (by decide) 65 rfl rfl (by decide) rfl ?_
          refine z_iload d_Mod_together_65 rfl 67 rfl ?_
          refine z_aload_n d_Mod_together_67 rfl 68 rfl ?_
          refine z_iload d_Mod_together_68 rfl 70 rfl ?_
          refine z_iload_n d_Mod_together_70 rfl 71 rfl ?_
          refine z_invv d_Mod_together_71 74 rfl hm_Mod_isMarked lk_Mod_70 im_Mod_isMarked sl_Mod_Mod_isMarked rfl wm_45 (r_Mod_isMarked _ _ (t) rfl (by omega)) rfl rfl (by decide) rfl rfl (Nat.le_of_ble_eq_true rfl) ?_
          refine z_if_eq d_Mod_together_74 81 77 (by decide) rfl (fun h11 => ?_) (fun h11 => ?_)
          · refine z_iconst d_Mod_together_81 0 (by decide) 82 rfl ?_
            refine z_iadd d_Mod_together_82 83 rfl ?_
            refine z_istore d_Mod_together_83 85 rfl (by decide) rfl ?_
            refine z_goto d_Mod_together_85 111 (by decide) ?_
            refine z_iinc d_Mod_together_111 1 (by decide) 114 rfl rfl (by decide) rfl ?_
            refine z_goto d_Mod_together_114 41 (by decide) ?_
            exact z_L _ (by simp_all [List.set, nI_succ, sm, zb_eq, zb_ne]) ih
          · refine z_iconst d_Mod_together_77 1 (by decide) 78 rfl ?_
            refine z_goto d_Mod_together_78 82 (by decide) ?_
            refine z_iadd d_Mod_together_82 83 rfl ?_
            refine z_istore d_Mod_together_83 85 rfl (by decide) rfl ?_
            refine z_goto d_Mod_together_85 111 (by decide) ?_
            refine z_iinc d_Mod_together_111 1 (by decide) 114 rfl rfl (by decide) rfl ?_
            refine z_goto d_Mod_together_114 41 (by decide) ?_
            exact z_L _ (by simp_all [List.set, nI_succ, sm, zb_eq, zb_ne]) ih
    · refine z_ldc d_Mod_together_18 kn_Mod_102 20 rfl ?_
      refine z_aload_n d_Mod_together_20 rfl 21 rfl ?_
      refine z_iconst d_Mod_together_21 (-1) (by decide) 22 rfl ?_
      refine z_invv d_Mod_together_22 25 rfl hm_Mod_refuse lk_Mod_29 im_Mod_refuse sl_Mod_Mod_refuse rfl wm_45 (r_Mod_refuse (-1) 1 (by decide) (by decide)) rfl rfl (by decide) rfl rfl (Nat.le_of_ble_eq_true rfl) ?_
      refine z_isub d_Mod_together_25 26 rfl ?_
      exact z_ireturn d_Mod_together_26 (by simp_all [zb_eq, zb_ne, ← Int32.not_le]) (by simp_all [zb_eq, zb_ne, rfu, ← Int32.not_le])
set_option maxHeartbeats 400000 in
theorem r_Mod_grows {K : zKK} {rf s im mt rd sc : Nat → Int32} {tl : List zC} {n : Nat} (hn : s 0 = nI n) (hn30 : n ≤ 30) {q : Nat} (hq : s 1 = nI q) (hq10 : q ≤ 10) (hP : PR s q n) (S1 S2 : Nat → Nat) (hg1 : ∀ w, w < 2 → g1V s w q = nI (S1 w)) (hg2 : ∀ w, w < 2 → g2V s w q = nI (S2 w)) (hb1 : ∀ w, S1 w < 32768) (hb2 : ∀ w, S2 w < 2 ^ 31) (w p : Int32) : Ret 32 0 0 m_Mod_grows [.ref 45, .int w, .int p] (wld K (rf, s, im, mt, rd, sc) tl) (some (.int ((if inR w 2 = true then (if inR p 2 = true then (if g1V s (ix w) q = 0 then 1000000003 else psV (S2 (ix w)) (S1 (ix w)) p) else 1000000002) else 1000000002)))) (wld K ((if inR w 2 = true then (if inR p 2 = true then (if g1V s (ix w) q = 0 then rfu rf 3 else rf) else rfu rf 2) else rfu rf 2), s, im, mt, rd, sc) tl) := by
  refine Ret.of (n := 5) (by decide) (rfl) rfl (fun X => ?_)
  refine z_iload_n d_Mod_grows_0 rfl 1 rfl ?_
  refine z_iconst d_Mod_grows_1 2 (by decide) 2 rfl ?_
  refine z_invs d_Mod_grows_2 5 rfl hm_Mod_isIn lk_Mod_25 st_Mod_isIn (r_Mod_isIn _ _) rfl rfl (by decide) rfl rfl (Nat.le_of_ble_eq_true rfl) ?_
  refine z_if_eq d_Mod_grows_5 16 8 (by decide) rfl (fun h1 => ?_) (fun h1 => ?_)
  · refine z_ldc d_Mod_grows_16 kn_Mod_102 18 rfl ?_
    refine z_aload_n d_Mod_grows_18 rfl 19 rfl ?_
    refine z_bipush d_Mod_grows_19 (-2) (by decide) 21 rfl ?_
    refine z_invv d_Mod_grows_21 24 rfl hm_Mod_refuse lk_Mod_29 im_Mod_refuse sl_Mod_Mod_refuse rfl wm_45 (r_Mod_refuse (-2) 2 (by decide) (by decide)) rfl rfl (by decide) rfl rfl (Nat.le_of_ble_eq_true rfl) ?_
    refine z_isub d_Mod_grows_24 25 rfl ?_
    exact z_ireturn d_Mod_grows_25 (by simp_all [zb_eq, zb_ne, ← Int32.not_le]) (by simp_all [zb_eq, zb_ne, rfu, ← Int32.not_le])
  · obtain ⟨i2, hi2, rfl⟩ := vld h1 (n := 2) rfl (by decide)
    have hci2 : (nI i2).toNatClampNeg = i2 := nI_clamp (by omega)
    refine z_iload_n d_Mod_grows_8 rfl 9 rfl ?_
    refine z_iconst d_Mod_grows_9 2 (by decide) 10 rfl ?_
    refine z_invs d_Mod_grows_10 13 rfl hm_Mod_isIn lk_Mod_25 st_Mod_isIn (r_Mod_isIn _ _) rfl rfl (by decide) rfl rfl (Nat.le_of_ble_eq_true rfl) ?_
    refine z_if_ne d_Mod_grows_13 26 16 (by decide) rfl (fun h3 => ?_) (fun h3 => ?_)
    · obtain ⟨i4, hi4, rfl⟩ := vld h3 (n := 2) rfl (by decide)
      have hci4 : (nI i4).toNatClampNeg = i4 := nI_clamp (by omega)
      refine z_iconst d_Mod_grows_26 0 (by decide) 27 rfl ?_
      refine z_istore_n d_Mod_grows_27 28 rfl (by decide) rfl ?_
      refine z_iconst d_Mod_grows_28 0 (by decide) 29 rfl ?_
      refine z_istore d_Mod_grows_29 31 rfl (by decide) rfl ?_
      refine z_iconst d_Mod_grows_31 0 (by decide) 32 rfl ?_
      refine z_istore d_Mod_grows_32 34 rfl (by decide) rfl ?_
      refine zloop (fun k => Z X m_Mod_grows 32 0 0 (some (.int ((if inR (nI i2) 2 = true then (if inR (nI i4) 2 = true then (if g1V s (ix (nI i2)) q = 0 then 1000000003 else psV (S2 (ix (nI i2))) (S1 (ix (nI i2))) (nI i4)) else 1000000002) else 1000000002)))) (wld K ((if inR (nI i2) 2 = true then (if inR (nI i4) 2 = true then (if g1V s (ix (nI i2)) q = 0 then rfu rf 3 else rf) else rfu rf 2) else rfu rf 2), s, im, mt, rd, sc) tl) 34 [some (.ref 45), some (.int (nI i2)), some (.int (nI i4)), some (.int (sm (fun k => if paV s i2 k < 0 then 0 else if pbV s i2 k < 0 then 0 else paV s i2 k) k)), some (.int (sm (fun k => if paV s i2 k < 0 then 0 else if pbV s i2 k < 0 then 0 else pbV s i2 k) k)), some (.int (nI k)), none, none] [] (wld K (rf, s, im, mt, rd, sc) tl)) (q) ?_ ?_ 0 (Nat.zero_le _)
      · refine z_iload d_Mod_grows_34 rfl 36 rfl ?_
        refine z_aload_n d_Mod_grows_36 rfl 37 rfl ?_
        refine z_get d_Mod_grows_37 40 rfl fl_Mod_13_11 wm_45 rfl ?_
        refine z_iconst d_Mod_grows_40 1 (by decide) 41 rfl ?_
        refine z_iaload d_Mod_grows_41 (1) 42 rfl wm_47 (rfl) (by omega) (by decide) ?_
        refine z_icmp_ge d_Mod_grows_42 118 45 (by decide) rfl (fun h5 => ?_) (fun h => absurd (by rw [hq]; exact Int32.le_refl _) h)
        refine z_iload_n d_Mod_grows_118 rfl 119 rfl ?_
        refine z_if_ne d_Mod_grows_119 134 122 (by decide) rfl (fun h6 => ?_) (fun h6 => ?_)
        · refine z_iload d_Mod_grows_134 rfl 136 rfl ?_
          refine z_iload_n d_Mod_grows_136 rfl 137 rfl ?_
          refine z_iload_n d_Mod_grows_137 rfl 138 rfl ?_
          refine z_invs d_Mod_grows_138 141 rfl hm_Mod_partOf lk_Mod_103 st_Mod_partOf (r_Mod_partOf _ _ _ (S2 i2) (S1 i2) (hg2 i2 hi2) (hg1 i2 hi2) (hb2 i2) (hb1 i2) (by
  rcases Nat.eq_zero_or_pos (S1 i2) with h | h
  · exact absurd (show g1V s i2 q = 0 by rw [hg1 i2 hi2, h]; rfl) h6
  · exact h)) rfl rfl (by decide) rfl rfl (Nat.le_of_ble_eq_true rfl) ?_
          exact z_ireturn d_Mod_grows_141 (by rw [if_pos ((zb_ne _).mp h1), if_pos ((zb_ne _).mp h3), show ix (nI i2) = i2 from hci2,  if_neg (show ¬ g1V s i2 q = 0 from h6)]) (by rw [if_pos ((zb_ne _).mp h1), if_pos ((zb_ne _).mp h3), show ix (nI i2) = i2 from hci2,  if_neg (show ¬ g1V s i2 q = 0 from h6)])
        · refine z_ldc d_Mod_grows_122 kn_Mod_102 124 rfl ?_
          refine z_aload_n d_Mod_grows_124 rfl 125 rfl ?_
          refine z_bipush d_Mod_grows_125 (-3) (by decide) 127 rfl ?_
          refine z_invv d_Mod_grows_127 130 rfl hm_Mod_refuse lk_Mod_29 im_Mod_refuse sl_Mod_Mod_refuse rfl wm_45 (r_Mod_refuse (-3) 3 (by decide) (by decide)) rfl rfl (by decide) rfl rfl (Nat.le_of_ble_eq_true rfl) ?_
          refine z_isub d_Mod_grows_130 131 rfl ?_
          refine z_goto d_Mod_grows_131 141 (by decide) ?_
          exact z_ireturn d_Mod_grows_141 (by rw [if_pos ((zb_ne _).mp h1), if_pos ((zb_ne _).mp h3), show ix (nI i2) = i2 from hci2,  if_pos (show g1V s i2 q = 0 from h6)]; rfl) (by rw [if_pos ((zb_ne _).mp h1), if_pos ((zb_ne _).mp h3), show ix (nI i2) = i2 from hci2,  if_pos (show g1V s i2 q = 0 from h6)]; rfl)
      · intro k hk ih
        have hpk := hP k hk
        refine z_iload d_Mod_grows_34 rfl 36 rfl ?_
        refine z_aload_n d_Mod_grows_36 rfl 37 rfl ?_
        refine z_get d_Mod_grows_37 40 rfl fl_Mod_13_11 wm_45 rfl ?_
        refine z_iconst d_Mod_grows_40 1 (by decide) 41 rfl ?_
        refine z_iaload d_Mod_grows_41 (1) 42 rfl wm_47 (rfl) (by omega) (by decide) ?_
        refine z_icmp_ge d_Mod_grows_42 118 45 (by decide) rfl (fun h => absurd h (by rw [hq]; exact nI_ge hk (by omega))) (fun h7 => ?_)
        refine z_aload_n d_Mod_grows_45 rfl 46 rfl ?_
        refine z_aload_n d_Mod_grows_46 rfl 47 rfl ?_
        refine z_get d_Mod_grows_47 50 rfl fl_Mod_13_11 wm_45 rfl ?_
        refine z_sipush d_Mod_grows_50 234 (by decide) 53 rfl ?_
        refine z_iconst d_Mod_grows_53 2 (by decide) 54 rfl ?_
        refine z_iload d_Mod_grows_54 rfl 56 rfl ?_
        refine z_imul d_Mod_grows_56 57 rfl ?_
        refine z_iadd d_Mod_grows_57 58 rfl ?_
        refine z_iaload d_Mod_grows_58 ((234 + (2 * k))) 59 rfl wm_47 (by show (nI 234 + (nI 2 * nI k)) = _; simp only [pk_mul, nI_add]) (by omega) (by decide) ?_
        refine z_top (.int (nI (ix (s (234 + 2 * k))))) (by rw [← hpk.1.1]) ?_
        refine z_iload_n d_Mod_grows_59 rfl 60 rfl ?_
        refine z_invv d_Mod_grows_60 63 rfl hm_Mod_get lk_Mod_66 im_Mod_get sl_Mod_Mod_get rfl wm_45 (r_Mod_get _ _ (ix (s (234 + 2 * k))) i2 rfl rfl (by have := hpk.1.2; omega)) rfl rfl (by decide) rfl rfl (Nat.le_of_ble_eq_true rfl) ?_
        refine z_top (.int (paV s i2 k)) rfl ?_
        refine z_istore d_Mod_grows_63 65 rfl (by decide) rfl ?_
        refine z_aload_n d_Mod_grows_65 rfl 66 rfl ?_
        refine z_aload_n d_Mod_grows_66 rfl 67 rfl ?_
        refine z_get d_Mod_grows_67 70 rfl fl_Mod_13_11 wm_45 rfl ?_
        refine z_sipush d_Mod_grows_70 234 (by decide) 73 rfl ?_
        refine z_iconst d_Mod_grows_73 2 (by decide) 74 rfl ?_
        refine z_iload d_Mod_grows_74 rfl 76 rfl ?_
        refine z_imul d_Mod_grows_76 77 rfl ?_
        refine z_iadd d_Mod_grows_77 78 rfl ?_
        refine z_iconst d_Mod_grows_78 1 (by decide) 79 rfl ?_
        refine z_iadd d_Mod_grows_79 80 rfl ?_
        refine z_iaload d_Mod_grows_80 (((234 + (2 * k)) + 1)) 81 rfl wm_47 (by show ((nI 234 + (nI 2 * nI k)) + nI 1) = _; simp only [pk_mul, nI_add]) (by omega) (by decide) ?_
        refine z_top (.int (nI (ix (s (234 + 2 * k + 1))))) (by rw [← hpk.2.1]) ?_
        refine z_iload_n d_Mod_grows_81 rfl 82 rfl ?_
        refine z_invv d_Mod_grows_82 85 rfl hm_Mod_get lk_Mod_66 im_Mod_get sl_Mod_Mod_get rfl wm_45 (r_Mod_get _ _ (ix (s (234 + 2 * k + 1))) i2 rfl rfl (by have := hpk.2.2; omega)) rfl rfl (by decide) rfl rfl (Nat.le_of_ble_eq_true rfl) ?_
        refine z_top (.int (pbV s i2 k)) rfl ?_
        refine z_istore d_Mod_grows_85 87 rfl (by decide) rfl ?_
        refine z_iload d_Mod_grows_87 rfl 89 rfl ?_
        refine z_if_lt d_Mod_grows_89 112 92 (by decide) rfl (fun h8 => ?_) (fun h8 => ?_)
        · have ea : paV s i2 k < 0 := h8
          refine z_iinc d_Mod_grows_112 1 (by decide) 115 rfl rfl (by decide) rfl ?_
          refine z_goto d_Mod_grows_115 34 (by decide) ?_
          exact z_Lw _ (by first | (simp [zLw, List.set, nI_succ, sm, ea, eb]; done) | (simp [zLw, List.set, nI_succ, sm, ea]; done)) ih
        · have ea : ¬ paV s i2 k < 0 := h8
          refine z_iload d_Mod_grows_92 rfl 94 rfl ?_
          refine z_if_ge d_Mod_grows_94 100 97 (by decide) rfl (fun h9 => ?_) (fun h9 => ?_)
          · have eb : ¬ pbV s i2 k < 0 := Int32.not_lt.mpr h9
            refine z_iload_n d_Mod_grows_100 rfl 101 rfl ?_
            refine z_iload d_Mod_grows_101 rfl 103 rfl ?_
            refine z_iadd d_Mod_grows_103 104 rfl ?_
            refine z_istore_n d_Mod_grows_104 105 rfl (by decide) rfl ?_
            refine z_iload d_Mod_grows_105 rfl 107 rfl ?_
            refine z_iload d_Mod_grows_107 rfl 109 rfl ?_
            refine z_iadd d_Mod_grows_109 110 rfl ?_
            refine z_istore d_Mod_grows_110 112 rfl (by decide) rfl ?_
            refine z_iinc d_Mod_grows_112 1 (by decide) 115 rfl rfl (by decide) rfl ?_
            refine z_goto d_Mod_grows_115 34 (by decide) ?_
            exact z_Lw _ (by first | (simp [zLw, List.set, nI_succ, sm, ea, eb]; done) | (simp [zLw, List.set, nI_succ, sm, ea]; done)) ih
          · have eb : pbV s i2 k < 0 := Int32.not_le.mp h9
            refine z_goto d_Mod_grows_97 112 (by decide) ?_
            refine z_iinc d_Mod_grows_112 1 (by decide) 115 rfl rfl (by decide) rfl ?_
            refine z_goto d_Mod_grows_115 34 (by decide) ?_
            exact z_Lw _ (by first | (simp [zLw, List.set, nI_succ, sm, ea, eb]; done) | (simp [zLw, List.set, nI_succ, sm, ea]; done)) ih
    · refine z_ldc d_Mod_grows_16 kn_Mod_102 18 rfl ?_
      refine z_aload_n d_Mod_grows_18 rfl 19 rfl ?_
      refine z_bipush d_Mod_grows_19 (-2) (by decide) 21 rfl ?_
      refine z_invv d_Mod_grows_21 24 rfl hm_Mod_refuse lk_Mod_29 im_Mod_refuse sl_Mod_Mod_refuse rfl wm_45 (r_Mod_refuse (-2) 2 (by decide) (by decide)) rfl rfl (by decide) rfl rfl (Nat.le_of_ble_eq_true rfl) ?_
      refine z_isub d_Mod_grows_24 25 rfl ?_
      exact z_ireturn d_Mod_grows_25 (by simp_all [zb_eq, zb_ne, ← Int32.not_le]) (by simp_all [zb_eq, zb_ne, rfu, ← Int32.not_le])
