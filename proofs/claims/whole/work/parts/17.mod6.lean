theorem pop_zero : ∀ f, pop f 0 = 0
  | 0 => rfl
  | f + 1 => by simp [pop, pop_zero f]
theorem pop_le : ∀ f m, pop f m ≤ f
  | 0, m => Nat.le_refl 0
  | f + 1, m => by
    have := pop_le f (m / 2)
    have h2 : m % 2 < 2 := Nat.mod_lt _ (by decide)
    simp only [pop]
    omega
theorem l_Mod_bits {X : zS} {hp : List zC} {v0 : Int32} {r : Int32} : ∀ (f m acc : Nat), m < 2 ^ f → f ≤ 30 → r = nI (acc + pop f m) → Z X m_Mod_bits 0 0 0 (some (.int r)) hp 4 [some (.int v0), some (.int (nI acc)), some (.int (nI m))] [] hp := by
  intro f
  induction f with
  | zero =>
    intro m acc hm hf hr
    have : m = 0 := by simpa using hm
    subst this
    refine z_iload_n d_Mod_bits_4 rfl 5 rfl ?_
    refine z_if_le d_Mod_bits_5 21 8 (by decide) rfl (fun _ => ?_) (fun h => absurd (by decide) h)
    refine z_iload_n d_Mod_bits_21 rfl 22 rfl ?_
    exact z_ireturn d_Mod_bits_22 (by rw [hr]; rfl) rfl
  | succ f ih =>
    intro m acc hm hf hr
    have hm31 : m < 2 ^ 31 := Nat.lt_of_lt_of_le hm (Nat.pow_le_pow_right (by decide) (by omega))
    refine z_iload_n d_Mod_bits_4 rfl 5 rfl ?_
    rcases Nat.eq_zero_or_pos m with rfl | h0
    · refine z_if_le d_Mod_bits_5 21 8 (by decide) rfl (fun _ => ?_) (fun h => absurd (by decide) h)
      refine z_iload_n d_Mod_bits_21 rfl 22 rfl ?_
      exact z_ireturn d_Mod_bits_22 (by rw [hr, pop_zero]; rfl) rfl
    · refine z_if_le d_Mod_bits_5 21 8 (by decide) rfl (fun h => absurd h (nI_nle h0 hm31)) (fun _ => ?_)
      refine z_iload_n d_Mod_bits_8 rfl 9 rfl ?_
      refine z_iload_n d_Mod_bits_9 rfl 10 rfl ?_
      refine z_iconst d_Mod_bits_10 1 (by decide) 11 rfl ?_
      refine z_iand d_Mod_bits_11 12 rfl ?_
      refine z_iadd d_Mod_bits_12 13 rfl ?_
      refine z_top (.int (nI (acc + m % 2))) (by rw [pk_andN (n := m) (m := 1) (by omega) 1 (by decide), nI_add]) ?_
      refine z_istore_n d_Mod_bits_13 14 rfl (by decide) rfl ?_
      refine z_iload_n d_Mod_bits_14 rfl 15 rfl ?_
      refine z_iconst d_Mod_bits_15 1 (by decide) 16 rfl ?_
      refine z_ishr d_Mod_bits_16 17 rfl ?_
      refine z_top (.int (nI (m / 2))) (by rw [pk_shrN hm31 (1 &&& 31) 1 (by decide)]) ?_
      refine z_istore_n d_Mod_bits_17 18 rfl (by decide) rfl ?_
      refine z_goto d_Mod_bits_18 4 (by decide) ?_
      exact ih (m / 2) (acc + m % 2) (by rw [Nat.pow_succ] at hm; omega) (by omega) (by rw [hr]; congr 1; simp only [pop]; omega)
theorem r_Mod_bits {hp : List zC} (v : Int32) (f m : Nat) (hv : v = nI m) (hm : m < 2 ^ f) (hf : f ≤ 30) : Ret 0 0 0 m_Mod_bits [.int v] hp (some (.int (nI (pop f m)))) hp := by
  subst hv
  refine Ret.of (n := 2) (by decide) (rfl) rfl (fun X => ?_)
  refine z_iconst d_Mod_bits_0 0 (by decide) 1 rfl ?_
  refine z_istore_n d_Mod_bits_1 2 rfl (by decide) rfl ?_
  refine z_iload_n d_Mod_bits_2 rfl 3 rfl ?_
  refine z_istore_n d_Mod_bits_3 4 rfl (by decide) rfl ?_
  exact l_Mod_bits f m 0 hm hf (by rw [Nat.zero_add])
set_option maxHeartbeats 400000 in
theorem r_Mod_isCover {K : zKK} {rf s im mt rd sc : Nat → Int32} {tl : List zC} {n : Nat} (hn : s 0 = nI n) (hn30 : n ≤ 30) (hz0 : NZ s n) (c : Int32) : Ret 5 0 0 m_Mod_isCover [.ref 45, .int c] (wld K (rf, s, im, mt, rd, sc) tl) (some (.int (zb (covV s n c)))) (wld K (rf, s, im, mt, rd, sc) tl) := by
  refine Ret.of (n := 1) (by decide) (zb_nar _) rfl (fun X => ?_)
  refine z_iconst d_Mod_isCover_0 0 (by decide) 1 rfl ?_
  refine z_istore_n d_Mod_isCover_1 2 rfl (by decide) rfl ?_
  refine zloop (fun t => (∀ q, q < t → ¬ lwTo s q 6 = 0 → ¬ lwTo s q 6 &&& c = 0) → Z X m_Mod_isCover 5 0 0 (some (.int (zb (covV s n c)))) (wld K (rf, s, im, mt, rd, sc) tl) 2 [some (.ref 45), some (.int (c)), some (.int (nI t))] [] (wld K (rf, s, im, mt, rd, sc) tl)) (n) ?_ ?_ 0 (Nat.zero_le _) (fun q h => absurd h (Nat.not_lt_zero q))
  · intro hinv
    refine z_iload_n d_Mod_isCover_2 rfl 3 rfl ?_
    refine z_aload_n d_Mod_isCover_3 rfl 4 rfl ?_
    refine z_get d_Mod_isCover_4 7 rfl fl_Mod_13_11 wm_45 rfl ?_
    refine z_iconst d_Mod_isCover_7 0 (by decide) 8 rfl ?_
    refine z_iaload d_Mod_isCover_8 (0) 9 rfl wm_47 (rfl) (by omega) (by decide) ?_
    refine z_icmp_ge d_Mod_isCover_9 38 12 (by decide) rfl (fun h1 => ?_) (fun h => absurd (by rw [hn]; exact Int32.le_refl _) h)
    refine z_iconst d_Mod_isCover_38 1 (by decide) 39 rfl ?_
    exact z_ireturn d_Mod_isCover_39 (by rw [covV_iff.mpr (fun q hq h0 => hinv q hq h0)]; rfl) (rfl)
  · intro t ht ih hinv
    refine z_iload_n d_Mod_isCover_2 rfl 3 rfl ?_
    refine z_aload_n d_Mod_isCover_3 rfl 4 rfl ?_
    refine z_get d_Mod_isCover_4 7 rfl fl_Mod_13_11 wm_45 rfl ?_
    refine z_iconst d_Mod_isCover_7 0 (by decide) 8 rfl ?_
    refine z_iaload d_Mod_isCover_8 (0) 9 rfl wm_47 (rfl) (by omega) (by decide) ?_
    refine z_icmp_ge d_Mod_isCover_9 38 12 (by decide) rfl (fun h => absurd h (by rw [hn]; exact nI_ge ht (by omega))) (fun h2 => ?_)
    refine z_aload_n d_Mod_isCover_12 rfl 13 rfl ?_
    refine z_iload_n d_Mod_isCover_13 rfl 14 rfl ?_
    refine z_invv d_Mod_isCover_14 17 rfl hm_Mod_lawsOf lk_Mod_106 im_Mod_lawsOf sl_Mod_Mod_lawsOf rfl wm_45 (r_Mod_lawsOf _ (t) rfl (by omega) (hz0 _ (by omega))) rfl rfl (by decide) rfl rfl (Nat.le_of_ble_eq_true rfl) ?_
    refine z_if_eq d_Mod_isCover_17 32 20 (by decide) rfl (fun h3 => ?_) (fun h3 => ?_)
    · refine z_iinc d_Mod_isCover_32 1 (by decide) 35 rfl rfl (by decide) rfl ?_
      refine z_goto d_Mod_isCover_35 2 (by decide) ?_
      exact z_L _ (by simp [nI_succ]) (ih (fun q hq h0 => by
        rcases Nat.lt_or_ge q t with h | h
        · exact hinv q h h0
        · have : q = t := by omega
          subst this
          first | exact absurd (by assumption) h0 | assumption))
    · refine z_aload_n d_Mod_isCover_20 rfl 21 rfl ?_
      refine z_iload_n d_Mod_isCover_21 rfl 22 rfl ?_
      refine z_invv d_Mod_isCover_22 25 rfl hm_Mod_lawsOf lk_Mod_106 im_Mod_lawsOf sl_Mod_Mod_lawsOf rfl wm_45 (r_Mod_lawsOf _ (t) rfl (by omega) (hz0 _ (by omega))) rfl rfl (by decide) rfl rfl (Nat.le_of_ble_eq_true rfl) ?_
      refine z_iload_n d_Mod_isCover_25 rfl 26 rfl ?_
      refine z_iand d_Mod_isCover_26 27 rfl ?_
      refine z_if_ne d_Mod_isCover_27 32 30 (by decide) rfl (fun h4 => ?_) (fun h4 => ?_)
      · refine z_iinc d_Mod_isCover_32 1 (by decide) 35 rfl rfl (by decide) rfl ?_
        refine z_goto d_Mod_isCover_35 2 (by decide) ?_
        exact z_L _ (by simp [nI_succ]) (ih (fun q hq h0 => by
          rcases Nat.lt_or_ge q t with h | h
          · exact hinv q h h0
          · have : q = t := by omega
            subst this
            first | exact absurd (by assumption) h0 | assumption))
      · refine z_iconst d_Mod_isCover_30 0 (by decide) 31 rfl ?_
        exact z_ireturn d_Mod_isCover_31 (by rw [covV_no (fun h => absurd (by assumption) (h t ht (by assumption)))]; rfl) (rfl)
def isCov (Q : Nat → Nat → Prop) (v : Nat) : Prop := (∃ m, m < 6 ∧ v < 64 ∧ Q m v ∧ (∀ m', m' < m → ∀ x, x < 64 → ¬ Q m' x) ∧ ∀ x, x < v → ¬ Q m x) ∨ (v = 63 ∧ ∀ m, m < 6 → ∀ x, x < 64 → ¬ Q m x)
theorem cov_at {Q : Nat → Nat → Prop} {v m x : Nat} (h : isCov Q v) (hm : m < 6) (hx : x < 64) (hq : Q m x) (h1 : ∀ m', m' < m → ∀ x, x < 64 → ¬ Q m' x) (h2 : ∀ y, y < x → ¬ Q m y) : x = v := by
  rcases h with ⟨m0, a, b, c, d, e⟩ | ⟨-, b⟩
  · rcases Nat.lt_trichotomy m m0 with g | g | g
    · exact absurd hq (d m g x hx)
    · subst g
      rcases Nat.lt_trichotomy x v with k | k | k
      · exact absurd hq (e x k)
      · exact k
      · exact absurd c (h2 v k)
    · exact absurd c (h1 m0 g v b)
  · exact absurd hq (b m hm x hx)
theorem cov_none {Q : Nat → Nat → Prop} {v : Nat} (h : isCov Q v) (h1 : ∀ m', m' < 6 → ∀ x, x < 64 → ¬ Q m' x) : v = 63 := by
  rcases h with ⟨m0, a, b, c, d, e⟩ | ⟨a, -⟩
  · exact absurd c (h1 m0 a v b)
  · exact a
abbrev cvQ (s : Nat → Int32) (n m x : Nat) : Prop := pop 8 x = m ∧ covV s n (nI x) = true
set_option maxHeartbeats 400000 in
theorem r_Mod_cover {K : zKK} {rf s im mt rd sc : Nat → Int32} {tl : List zC} {n : Nat} (hn : s 0 = nI n) (hn30 : n ≤ 30) (hz0 : NZ s n) (v : Nat) (hv : isCov (cvQ s n) v) : Ret 6 0 0 m_Mod_cover [.ref 45] (wld K (rf, s, im, mt, rd, sc) tl) (some (.int (nI v))) (wld K (rf, s, im, mt, rd, sc) tl) := by
  refine Ret.of (n := 2) (by decide) (rfl) rfl (fun X => ?_)
  refine z_iconst d_Mod_cover_0 0 (by decide) 1 rfl ?_
  refine z_istore_n d_Mod_cover_1 2 rfl (by decide) rfl ?_
  refine zloop (fun m => (∀ m', m' < m → ∀ y, y < 64 → ¬ cvQ s n m' y) → Z X m_Mod_cover 6 0 0 (some (.int (nI v))) (wld K (rf, s, im, mt, rd, sc) tl) 2 [some (.ref 45), some (.int (nI m)), none] [] (wld K (rf, s, im, mt, rd, sc) tl)) (6) ?_ ?_ 0 (Nat.zero_le _) (fun q h => absurd h (Nat.not_lt_zero q))
  · intro hinv
    refine z_iload_n d_Mod_cover_2 rfl 3 rfl ?_
    refine z_bipush d_Mod_cover_3 6 (by decide) 5 rfl ?_
    refine z_icmp_ge d_Mod_cover_5 46 8 (by decide) rfl (fun h1 => ?_) (fun h => absurd (by decide) h)
    refine z_bipush d_Mod_cover_46 63 (by decide) 48 rfl ?_
    exact z_ireturn d_Mod_cover_48 (by rw [cov_none hv hinv]; rfl) (rfl)
  · intro m hm ih hinv
    have ihm := fun z => z_Lw (L := [some (.ref 45), some (.int (nI (m + 1))), some (.int (nI 64))]) _ (by simp [zLw]) (ih z)
    have hinm := hinv
    refine z_iload_n d_Mod_cover_2 rfl 3 rfl ?_
    refine z_bipush d_Mod_cover_3 6 (by decide) 5 rfl ?_
    refine z_icmp_ge d_Mod_cover_5 46 8 (by decide) rfl (fun h => absurd h (show ¬ nI 6 ≤ nI m from nI_ge hm (by decide))) (fun h2 => ?_)
    refine z_iconst d_Mod_cover_8 0 (by decide) 9 rfl ?_
    refine z_istore_n d_Mod_cover_9 10 rfl (by decide) rfl ?_
    refine zloop (fun x => (∀ y, y < x → ¬ cvQ s n m y) → Z X m_Mod_cover 6 0 0 (some (.int (nI v))) (wld K (rf, s, im, mt, rd, sc) tl) 10 [some (.ref 45), some (.int (nI m)), some (.int (nI x))] [] (wld K (rf, s, im, mt, rd, sc) tl)) (64) ?_ ?_ 0 (Nat.zero_le _) (fun q h => absurd h (Nat.not_lt_zero q))
    · intro hinv
      have hin2 := hinv
      refine z_iload_n d_Mod_cover_10 rfl 11 rfl ?_
      refine z_bipush d_Mod_cover_11 64 (by decide) 13 rfl ?_
      refine z_icmp_ge d_Mod_cover_13 40 16 (by decide) rfl (fun h3 => ?_) (fun h => absurd (by decide) h)
      refine z_iinc d_Mod_cover_40 1 (by decide) 43 rfl rfl (by decide) rfl ?_
      refine z_goto d_Mod_cover_43 2 (by decide) ?_
      exact z_L _ (by simp [nI_succ]) (ihm (fun m' hm' y hy => by
        rcases Nat.lt_or_ge m' m with h | h
        · exact hinm m' h y hy
        · have : m' = m := by omega
          subst this
          exact hin2 y hy))
    · intro x hx ih hinv
      have hin2 := hinv
      refine z_iload_n d_Mod_cover_10 rfl 11 rfl ?_
      refine z_bipush d_Mod_cover_11 64 (by decide) 13 rfl ?_
      refine z_icmp_ge d_Mod_cover_13 40 16 (by decide) rfl (fun h => absurd h (show ¬ nI 64 ≤ nI x from nI_ge hx (by decide))) (fun h4 => ?_)
      refine z_iload_n d_Mod_cover_16 rfl 17 rfl ?_
      refine z_invs d_Mod_cover_17 20 rfl hm_Mod_bits lk_Mod_109 st_Mod_bits (r_Mod_bits _ 8 (x) rfl (by omega) (by decide)) rfl rfl (by decide) rfl rfl (Nat.le_of_ble_eq_true rfl) ?_
      refine z_iload_n d_Mod_cover_20 rfl 21 rfl ?_
      refine z_icmp_ne d_Mod_cover_21 34 24 (by decide) rfl (fun h5 => ?_) (fun h5 => ?_)
      · refine z_iinc d_Mod_cover_34 1 (by decide) 37 rfl rfl (by decide) rfl ?_
        refine z_goto d_Mod_cover_37 10 (by decide) ?_
        exact z_L _ (by simp [nI_succ]) (ih (fun y hy => by
          rcases Nat.lt_or_ge y x with h | h
          · exact hin2 y h
          · have : y = x := by omega
            subst this
            have hp8 := pop_le 8 y
            first | exact fun q => absurd (show nI (pop 8 y) = nI m by rw [q.1]) (by assumption) | (simp_all [cvQ, zb_eq, zb_ne]; done)))
      · refine z_aload_n d_Mod_cover_24 rfl 25 rfl ?_
        refine z_iload_n d_Mod_cover_25 rfl 26 rfl ?_
        refine z_invv d_Mod_cover_26 29 rfl hm_Mod_isCover lk_Mod_112 im_Mod_isCover sl_Mod_Mod_isCover rfl wm_45 (r_Mod_isCover hn hn30 hz0 _) rfl rfl (by decide) rfl rfl (Nat.le_of_ble_eq_true rfl) ?_
        refine z_if_eq d_Mod_cover_29 34 32 (by decide) rfl (fun h6 => ?_) (fun h6 => ?_)
        · refine z_iinc d_Mod_cover_34 1 (by decide) 37 rfl rfl (by decide) rfl ?_
          refine z_goto d_Mod_cover_37 10 (by decide) ?_
          exact z_L _ (by simp [nI_succ]) (ih (fun y hy => by
            rcases Nat.lt_or_ge y x with h | h
            · exact hin2 y h
            · have : y = x := by omega
              subst this
              have hp8 := pop_le 8 y
              first | exact fun q => absurd (show nI (pop 8 y) = nI m by rw [q.1]) (by assumption) | (simp_all [cvQ, zb_eq, zb_ne]; done)))
        · refine z_iload_n d_Mod_cover_32 rfl 33 rfl ?_
          exact z_ireturn d_Mod_cover_33 (by rw [cov_at hv hm hx ⟨(nI_eq (by have := pop_le 8 x; omega) (by omega)).mp (by assumption), (zb_ne _).mp (by assumption)⟩ hinm hin2]) (rfl)
set_option maxHeartbeats 400000 in
theorem r_Mod_alike {K : zKK} {rf s im mt rd sc : Nat → Int32} {tl : List zC} {n : Nat} (hn : s 0 = nI n) (hn30 : n ≤ 30) (hz0 : NZ s n) (t : Int32) : Ret 5 0 0 m_Mod_alike [.ref 45, .int t] (wld K (rf, s, im, mt, rd, sc) tl) (some (.int ((if inR t (s 0) = true then fnd n (fun e => decide (lwTo s e 6 = lwTo s (ix t) 6)) else -1)))) (wld K ((if inR t (s 0) = true then rf else rfu rf 1), s, im, mt, rd, sc) tl) := by
  refine Ret.of (n := 1) (by decide) (rfl) rfl (fun X => ?_)
  refine z_aload_n d_Mod_alike_0 rfl 1 rfl ?_
  refine z_iload_n d_Mod_alike_1 rfl 2 rfl ?_
  refine z_invv d_Mod_alike_2 5 rfl hm_Mod_isTelling lk_Mod_63 im_Mod_isTelling sl_Mod_Mod_isTelling rfl wm_45 (r_Mod_isTelling _) rfl rfl (by decide) rfl rfl (Nat.le_of_ble_eq_true rfl) ?_
  refine z_if_ne d_Mod_alike_5 14 8 (by decide) rfl (fun h1 => ?_) (fun h1 => ?_)
  · obtain ⟨i2, hi2, rfl⟩ := vld h1 hn (by omega)
    have hci2 : (nI i2).toNatClampNeg = i2 := nI_clamp (by omega)
    refine z_iconst d_Mod_alike_14 0 (by decide) 15 rfl ?_
    refine z_istore_n d_Mod_alike_15 16 rfl (by decide) rfl ?_
    refine zloop (fun e => (∀ q, q < e → ¬ lwTo s q 6 = lwTo s i2 6) → Z X m_Mod_alike 5 0 0 (some (.int ((if inR (nI i2) (s 0) = true then fnd n (fun e => decide (lwTo s e 6 = lwTo s (ix (nI i2)) 6)) else -1)))) (wld K ((if inR (nI i2) (s 0) = true then rf else rfu rf 1), s, im, mt, rd, sc) tl) 16 [some (.ref 45), some (.int (nI i2)), some (.int (nI e))] [] (wld K (rf, s, im, mt, rd, sc) tl)) i2 ?_ ?_ 0 (Nat.zero_le _) (fun q h => absurd h (Nat.not_lt_zero q))
    · intro hinv
      refine z_aload_n d_Mod_alike_16 rfl 17 rfl ?_
      refine z_iload_n d_Mod_alike_17 rfl 18 rfl ?_
      refine z_invv d_Mod_alike_18 21 rfl hm_Mod_lawsOf lk_Mod_106 im_Mod_lawsOf sl_Mod_Mod_lawsOf rfl wm_45 (r_Mod_lawsOf _ (i2) rfl (by omega) (hz0 _ (by omega))) rfl rfl (by decide) rfl rfl (Nat.le_of_ble_eq_true rfl) ?_
      refine z_aload_n d_Mod_alike_21 rfl 22 rfl ?_
      refine z_iload_n d_Mod_alike_22 rfl 23 rfl ?_
      refine z_invv d_Mod_alike_23 26 rfl hm_Mod_lawsOf lk_Mod_106 im_Mod_lawsOf sl_Mod_Mod_lawsOf rfl wm_45 (r_Mod_lawsOf _ (i2) rfl (by omega) (hz0 _ (by omega))) rfl rfl (by decide) rfl rfl (Nat.le_of_ble_eq_true rfl) ?_
      refine z_icmp_eq d_Mod_alike_26 35 29 (by decide) rfl (fun h3 => ?_) (fun h => absurd rfl h)
      refine z_iload_n d_Mod_alike_35 rfl 36 rfl ?_
      exact z_ireturn d_Mod_alike_36 (by rw [if_pos (by simp_all [zb_eq, zb_ne]), show ix (nI i2) = i2 from hci2, fnd_some (k := i2) (p := fun e => decide (lwTo s e 6 = lwTo s i2 6)) (by omega) (by simp [*]) (fun q hq => by simp [hinv q hq])]) (by simp_all [zb_eq, zb_ne, rfu, ← Int32.not_le])
    · intro e he ih hinv
      refine z_aload_n d_Mod_alike_16 rfl 17 rfl ?_
      refine z_iload_n d_Mod_alike_17 rfl 18 rfl ?_
      refine z_invv d_Mod_alike_18 21 rfl hm_Mod_lawsOf lk_Mod_106 im_Mod_lawsOf sl_Mod_Mod_lawsOf rfl wm_45 (r_Mod_lawsOf _ (e) rfl (by omega) (hz0 _ (by omega))) rfl rfl (by decide) rfl rfl (Nat.le_of_ble_eq_true rfl) ?_
      refine z_aload_n d_Mod_alike_21 rfl 22 rfl ?_
      refine z_iload_n d_Mod_alike_22 rfl 23 rfl ?_
      refine z_invv d_Mod_alike_23 26 rfl hm_Mod_lawsOf lk_Mod_106 im_Mod_lawsOf sl_Mod_Mod_lawsOf rfl wm_45 (r_Mod_lawsOf _ (i2) rfl (by omega) (hz0 _ (by omega))) rfl rfl (by decide) rfl rfl (Nat.le_of_ble_eq_true rfl) ?_
      refine z_icmp_eq d_Mod_alike_26 35 29 (by decide) rfl (fun h4 => ?_) (fun h4 => ?_)
      · refine z_iload_n d_Mod_alike_35 rfl 36 rfl ?_
        exact z_ireturn d_Mod_alike_36 (by rw [if_pos (by simp_all [zb_eq, zb_ne]), show ix (nI i2) = i2 from hci2, fnd_some (k := e) (p := fun e => decide (lwTo s e 6 = lwTo s i2 6)) (by omega) (by simp [*]) (fun q hq => by simp [hinv q hq])]) (by simp_all [zb_eq, zb_ne, rfu, ← Int32.not_le])
      · refine z_iinc d_Mod_alike_29 1 (by decide) 32 rfl rfl (by decide) rfl ?_
        refine z_goto d_Mod_alike_32 16 (by decide) ?_
        exact z_L _ (by simp [nI_succ]) (ih (fun q hq => by
          rcases Nat.lt_or_ge q e with h | h
          · exact hinv q h
          · have : q = e := by omega
            subst this
            assumption))
  · refine z_aload_n d_Mod_alike_8 rfl 9 rfl ?_
    refine z_iconst d_Mod_alike_9 (-1) (by decide) 10 rfl ?_
    refine z_invv d_Mod_alike_10 13 rfl hm_Mod_refuse lk_Mod_29 im_Mod_refuse sl_Mod_Mod_refuse rfl wm_45 (r_Mod_refuse (-1) 1 (by decide) (by decide)) rfl rfl (by decide) rfl rfl (Nat.le_of_ble_eq_true rfl) ?_
    exact z_ireturn d_Mod_alike_13 (by simp_all [zb_eq, zb_ne, ← Int32.not_le]) (by simp_all [zb_eq, zb_ne, rfu, ← Int32.not_le])
set_option maxHeartbeats 400000 in
theorem r_Mod_image {K : zKK} {rf s im mt rd sc : Nat → Int32} {tl : List zC} : Ret 0 0 0 m_Mod_image [.ref 45] (wld K (rf, s, im, mt, rd, sc) tl) (some (.int (s 0))) (wld K (rf, s, cp s im 268, mt, rd, upd sc 0 1) tl) := by
  refine Ret.of (n := 1) (by decide) (rfl) rfl (fun X => ?_)
  refine z_iconst d_Mod_image_0 0 (by decide) 1 rfl ?_
  refine z_istore_n d_Mod_image_1 2 rfl (by decide) rfl ?_
  refine z_hp (hp1 := wld K (rf, s, cp s im 0, mt, rd, sc) tl) (by rw [cp_0]) ?_
  refine zloop (fun k => Z X m_Mod_image 0 0 0 (some (.int (s 0))) (wld K (rf, s, cp s im 268, mt, rd, upd sc 0 1) tl) 2 [some (.ref 45), some (.int (nI k))] [] (wld K (rf, s, cp s im (k), mt, rd, sc) tl)) (268) ?_ ?_ 0 (Nat.zero_le _)
  · refine z_iload_n d_Mod_image_2 rfl 3 rfl ?_
    refine z_sipush d_Mod_image_3 268 (by decide) 6 rfl ?_
    refine z_icmp_ge d_Mod_image_6 27 9 (by decide) rfl (fun h1 => ?_) (fun h => absurd (by decide) h)
    refine z_aload_n d_Mod_image_27 rfl 28 rfl ?_
    refine z_iconst d_Mod_image_28 1 (by decide) 29 rfl ?_
    refine z_put d_Mod_image_29 32 rfl fp_Mod_124_11 (Or.inl rfl) wm_45 (fun _ _ => rfl) (fun _ _ => rfl) (by simp) ?_
    refine z_hp wp_45_3 ?_
    refine z_aload_n d_Mod_image_32 rfl 33 rfl ?_
    refine z_get d_Mod_image_33 36 rfl fl_Mod_13_11 wm_45 rfl ?_
    refine z_iconst d_Mod_image_36 0 (by decide) 37 rfl ?_
    refine z_iaload d_Mod_image_37 (0) 38 rfl wm_47 (rfl) (by omega) (by decide) ?_
    exact z_ireturn d_Mod_image_38 (rfl) (rfl)
  · intro k hk ih
    refine z_iload_n d_Mod_image_2 rfl 3 rfl ?_
    refine z_sipush d_Mod_image_3 268 (by decide) 6 rfl ?_
    refine z_icmp_ge d_Mod_image_6 27 9 (by decide) rfl (fun h => absurd h (show ¬ nI 268 ≤ nI k from nI_ge hk (by decide))) (fun h2 => ?_)
    refine z_aload_n d_Mod_image_9 rfl 10 rfl ?_
    refine z_get d_Mod_image_10 13 rfl fl_Mod_16_11 wm_45 rfl ?_
    refine z_iload_n d_Mod_image_13 rfl 14 rfl ?_
    refine z_aload_n d_Mod_image_14 rfl 15 rfl ?_
    refine z_get d_Mod_image_15 18 rfl fl_Mod_13_11 wm_45 rfl ?_
    refine z_iload_n d_Mod_image_18 rfl 19 rfl ?_
    refine z_iaload d_Mod_image_19 (k) 20 rfl wm_47 (rfl) (by omega) (by decide) ?_
    refine z_iastore d_Mod_image_20 (k) 21 rfl wm_48 (rfl) (by omega) (by decide) ?_
    refine z_hp ws_48 ?_
    refine z_iinc d_Mod_image_21 1 (by decide) 24 rfl rfl (by decide) rfl ?_
    refine z_goto d_Mod_image_24 2 (by decide) ?_
    rw [← cp_s s im k] at ih
    exact z_L _ (by simp [nI_succ]) ih
set_option maxHeartbeats 400000 in
theorem r_Mod_on {K : zKK} {rf s im mt rd sc : Nat → Int32} {tl : List zC} : Ret 1 0 0 m_Mod_on [.ref 45] (wld K (rf, s, im, mt, rd, sc) tl) (some (.int (if sc 0 = 0 then -3 else im 0))) (wld K (if sc 0 = 0 then rfu rf 3 else rf, if sc 0 = 0 then s else cp im s 268, im, mt, rd, sc) tl) := by
  refine Ret.of (n := 1) (by decide) (rfl) rfl (fun X => ?_)
  refine z_aload_n d_Mod_on_0 rfl 1 rfl ?_
  refine z_get d_Mod_on_1 4 rfl fl_Mod_124_11 wm_45 rfl ?_
  refine z_if_ne d_Mod_on_4 14 7 (by decide) rfl (fun h1 => ?_) (fun h1 => ?_)
  · refine z_iconst d_Mod_on_14 0 (by decide) 15 rfl ?_
    refine z_istore_n d_Mod_on_15 16 rfl (by decide) rfl ?_
    refine z_hp (hp1 := wld K (rf, cp im s 0, im, mt, rd, sc) tl) (by rw [cp_0]) ?_
    refine zloop (fun k => Z X m_Mod_on 1 0 0 (some (.int (if sc 0 = 0 then -3 else im 0))) (wld K (if sc 0 = 0 then rfu rf 3 else rf, if sc 0 = 0 then s else cp im s 268, im, mt, rd, sc) tl) 16 [some (.ref 45), some (.int (nI k))] [] (wld K (rf, cp im s (k), im, mt, rd, sc) tl)) (268) ?_ ?_ 0 (Nat.zero_le _)
    · refine z_iload_n d_Mod_on_16 rfl 17 rfl ?_
      refine z_sipush d_Mod_on_17 268 (by decide) 20 rfl ?_
      refine z_icmp_ge d_Mod_on_20 41 23 (by decide) rfl (fun h2 => ?_) (fun h => absurd (by decide) h)
      refine z_aload_n d_Mod_on_41 rfl 42 rfl ?_
      refine z_get d_Mod_on_42 45 rfl fl_Mod_13_11 wm_45 rfl ?_
      refine z_iconst d_Mod_on_45 0 (by decide) 46 rfl ?_
      refine z_iaload d_Mod_on_46 (0) 47 rfl wm_47 (rfl) (by omega) (by decide) ?_
      exact z_ireturn d_Mod_on_47 (by simp [*, cp]) (by simp [*])
    · intro k hk ih
      refine z_iload_n d_Mod_on_16 rfl 17 rfl ?_
      refine z_sipush d_Mod_on_17 268 (by decide) 20 rfl ?_
      refine z_icmp_ge d_Mod_on_20 41 23 (by decide) rfl (fun h => absurd h (show ¬ nI 268 ≤ nI k from nI_ge hk (by decide))) (fun h3 => ?_)
      refine z_aload_n d_Mod_on_23 rfl 24 rfl ?_
      refine z_get d_Mod_on_24 27 rfl fl_Mod_13_11 wm_45 rfl ?_
      refine z_iload_n d_Mod_on_27 rfl 28 rfl ?_
      refine z_aload_n d_Mod_on_28 rfl 29 rfl ?_
      refine z_get d_Mod_on_29 32 rfl fl_Mod_16_11 wm_45 rfl ?_
      refine z_iload_n d_Mod_on_32 rfl 33 rfl ?_
      refine z_iaload d_Mod_on_33 (k) 34 rfl wm_48 (rfl) (by omega) (by decide) ?_
      refine z_iastore d_Mod_on_34 (k) 35 rfl wm_47 (rfl) (by omega) (by decide) ?_
      refine z_hp ws_47 ?_
      refine z_iinc d_Mod_on_35 1 (by decide) 38 rfl rfl (by decide) rfl ?_
      refine z_goto d_Mod_on_38 16 (by decide) ?_
      rw [← cp_s im s k] at ih
      exact z_L _ (by simp [nI_succ]) ih
  · refine z_aload_n d_Mod_on_7 rfl 8 rfl ?_
    refine z_bipush d_Mod_on_8 (-3) (by decide) 10 rfl ?_
    refine z_invv d_Mod_on_10 13 rfl hm_Mod_refuse lk_Mod_29 im_Mod_refuse sl_Mod_Mod_refuse rfl wm_45 (r_Mod_refuse (-3) 3 (by decide) (by decide)) rfl rfl (by decide) rfl rfl (Nat.le_of_ble_eq_true rfl) ?_
    exact z_ireturn d_Mod_on_13 (by simp_all) (by simp_all [rfu])
