set_option maxHeartbeats 400000 in
theorem r_Lir_noteLaws {tk : Int32} {tp bt crf nt : Nat → Int32} {T PF PS : Nat → Option Nat} {C : Nat → Nat → Int32} {rc g pp bn sc : Nat → Int32} {b : zR} {u : zU} {tl : List zC} {s : Nat → Int32} {n : Nat} (hn : sc 0 = nI n) (hn30 : n ≤ 30) (hTT : TT tl T s n)  : Ret 5 0 0 m_Lir_noteLaws [.ref 0] (wld (tk, tp, bt, (T, C, rc, PF, PS, g, pp, bn, sc), b, crf, nt) u tl) (none) (wld (tk, tp, bt, (T, C, rc, PF, PS, g, pp, bn, sc), b, crf, cp (lf C g (sc 3) s) nt n) u tl) := by
  refine Ret.of (n := 2) (by decide) (trivial) rfl (fun X => ?_)
  refine z_iconst d_Lir_noteLaws_0 0 (by decide) 1 rfl ?_
  refine z_istore_n d_Lir_noteLaws_1 2 rfl (by decide) rfl ?_
  refine z_hp (hp1 := wld (tk, tp, bt, (T, C, rc, PF, PS, g, pp, bn, sc), b, crf, cp (lf C g (sc 3) s) nt 0) u tl) (by rw [cp_0]) ?_
  refine zloop (fun i => Z X m_Lir_noteLaws 5 0 0 (none) (wld (tk, tp, bt, (T, C, rc, PF, PS, g, pp, bn, sc), b, crf, cp (lf C g (sc 3) s) nt n) u tl) 2 [some (.ref 0), some (.int (nI i)), none] [] (wld (tk, tp, bt, (T, C, rc, PF, PS, g, pp, bn, sc), b, crf, cp (lf C g (sc 3) s) nt (i)) u tl)) (n) ?_ ?_ 0 (Nat.zero_le _)
  · refine z_iload_n d_Lir_noteLaws_2 rfl 3 rfl ?_
    refine z_aload_n d_Lir_noteLaws_3 rfl 4 rfl ?_
    refine z_get d_Lir_noteLaws_4 7 rfl fl_Lir_19_10 wc_0 rfl ?_
    refine z_get d_Lir_noteLaws_7 10 rfl fl_Lir_53_6 wc_3 rfl ?_
    refine z_icmp_ge d_Lir_noteLaws_10 59 13 (by decide) rfl (fun h1 => ?_) (fun hzz => absurd (by rw [hn]; exact Int32.le_refl _) hzz)
    exact z_return d_Lir_noteLaws_59 rfl rfl
  · intro i hi ih
    have hin : i < n := hi
    refine z_iload_n d_Lir_noteLaws_2 rfl 3 rfl ?_
    refine z_aload_n d_Lir_noteLaws_3 rfl 4 rfl ?_
    refine z_get d_Lir_noteLaws_4 7 rfl fl_Lir_19_10 wc_0 rfl ?_
    refine z_get d_Lir_noteLaws_7 10 rfl fl_Lir_53_6 wc_3 rfl ?_
    refine z_icmp_ge d_Lir_noteLaws_10 59 13 (by decide) rfl (fun hzz => absurd hzz (by rw [hn]; exact nI_ge hi (by omega))) (fun h2 => ?_)
    refine z_iload_n d_Lir_noteLaws_13 rfl 14 rfl ?_
    refine z_aload_n d_Lir_noteLaws_14 rfl 15 rfl ?_
    refine z_get d_Lir_noteLaws_15 18 rfl fl_Lir_30_10 wc_0 rfl ?_
    refine z_alenI d_Lir_noteLaws_18 19 rfl wc_44 30 (by decide) ?_
    refine z_icmp_ge d_Lir_noteLaws_19 59 22 (by decide) rfl (fun hzz => absurd hzz (show ¬ nI 30 ≤ nI i from nI_ge (by omega) (by decide))) (fun h3 => ?_)
    refine z_aload_n d_Lir_noteLaws_22 rfl 23 rfl ?_
    refine z_get d_Lir_noteLaws_23 26 rfl fl_Lir_19_10 wc_0 rfl ?_
    refine z_iload_n d_Lir_noteLaws_26 rfl 27 rfl ?_
    obtain ⟨j4, hTj4, hjj4⟩ := hTT.1 i hi
    have hPj4 : (wld (tk, tp, bt, (T, C, rc, PF, PS, g, pp, bn, sc), b, crf, cp (lf C g (sc 3) s) nt i) u tl)[51 + j4]? = some (tcell (fun k => s (6 + 6 * i + k))) := (wl_tl j4).trans hjj4
    refine z_invv d_Lir_noteLaws_27 30 rfl hm_Roo_tellingAt lk_Lir_74 im_Roo_tellingAt sl_Roo_Roo_tellingAt rfl wc_3 (r_Roo_tellingAt_s hn hn30 i _ hi hTj4) rfl rfl (by decide) rfl rfl (Nat.le_of_ble_eq_true rfl) ?_
    refine z_astore_n d_Lir_noteLaws_30 31 rfl (by decide) rfl ?_
    refine z_aload_n d_Lir_noteLaws_31 rfl 32 rfl ?_
    refine z_get d_Lir_noteLaws_32 35 rfl fl_Lir_30_10 wc_0 rfl ?_
    refine z_iload_n d_Lir_noteLaws_35 rfl 36 rfl ?_
    refine z_aload_n d_Lir_noteLaws_36 rfl 37 rfl ?_
    refine z_ifnonnull d_Lir_noteLaws_37 44 (by decide) ?_
    refine z_aload_n d_Lir_noteLaws_44 rfl 45 rfl ?_
    refine z_get d_Lir_noteLaws_45 48 rfl fl_Lir_19_10 wc_0 rfl ?_
    refine z_aload_n d_Lir_noteLaws_48 rfl 49 rfl ?_
    refine z_invv d_Lir_noteLaws_49 52 rfl hm_Roo_lawsFitted lk_Lir_281 im_Roo_lawsFitted sl_Roo_Roo_lawsFitted rfl wc_3 (r_Roo_lawsFitted _ _ hPj4) rfl rfl (by decide) rfl rfl (Nat.le_of_ble_eq_true rfl) ?_
    refine z_iastore d_Lir_noteLaws_52 i 53 rfl wc_44 rfl (by omega) (by decide) ?_
    refine z_hp ws_44 ?_
    refine z_iinc d_Lir_noteLaws_53 1 (by decide) 56 rfl rfl (by decide) rfl ?_
    refine z_goto d_Lir_noteLaws_56 2 (by decide) ?_
    rw [← cp_s (lf C g (sc 3) s) nt i] at ih
    exact z_Lg _ ih (by simp [zLw, List.set, nI_succ])
set_option maxHeartbeats 400000 in
theorem r_Lir_noteBroken {tk : Int32} {tp bt crf nt : Nat → Int32} {T PF PS : Nat → Option Nat} {C : Nat → Nat → Int32} {rc g pp bn sc : Nat → Int32} {b : zR} {u : zU} {tl : List zC} {s : Nat → Int32} {n : Nat} (hn : sc 0 = nI n) (hn30 : n ≤ 30) (hTT : TT tl T s n) (l : Nat) (hl : l < 6) : Ret 5 0 0 m_Lir_noteBroken [.ref 0, .ref (6 + 2 * l)] (wld (tk, tp, bt, (T, C, rc, PF, PS, g, pp, bn, sc), b, crf, nt) u tl) (none) (wld (tk, tp, bt, (T, C, rc, PF, PS, g, pp, bn, sc), b, crf, cp (fun i => bk C g (sc 3) s i l) nt n) u tl) := by
  refine Ret.of (n := 2) (by decide) (trivial) rfl (fun X => ?_)
  refine z_iconst d_Lir_noteBroken_0 0 (by decide) 1 rfl ?_
  refine z_istore_n d_Lir_noteBroken_1 2 rfl (by decide) rfl ?_
  refine z_hp (hp1 := wld (tk, tp, bt, (T, C, rc, PF, PS, g, pp, bn, sc), b, crf, cp (fun i => bk C g (sc 3) s i l) nt 0) u tl) (by rw [cp_0]) ?_
  refine zloop (fun i => Z X m_Lir_noteBroken 5 0 0 (none) (wld (tk, tp, bt, (T, C, rc, PF, PS, g, pp, bn, sc), b, crf, cp (fun i => bk C g (sc 3) s i l) nt n) u tl) 2 [some (.ref 0), some (.ref (6 + 2 * l)), some (.int (nI i)), none] [] (wld (tk, tp, bt, (T, C, rc, PF, PS, g, pp, bn, sc), b, crf, cp (fun i => bk C g (sc 3) s i l) nt (i)) u tl)) (n) ?_ ?_ 0 (Nat.zero_le _)
  · refine z_iload_n d_Lir_noteBroken_2 rfl 3 rfl ?_
    refine z_aload_n d_Lir_noteBroken_3 rfl 4 rfl ?_
    refine z_get d_Lir_noteBroken_4 7 rfl fl_Lir_19_10 wc_0 rfl ?_
    refine z_get d_Lir_noteBroken_7 10 rfl fl_Lir_53_6 wc_3 rfl ?_
    refine z_icmp_ge d_Lir_noteBroken_10 60 13 (by decide) rfl (fun h1 => ?_) (fun hzz => absurd (by rw [hn]; exact Int32.le_refl _) hzz)
    exact z_return d_Lir_noteBroken_60 rfl rfl
  · intro i hi ih
    have hin : i < n := hi
    refine z_iload_n d_Lir_noteBroken_2 rfl 3 rfl ?_
    refine z_aload_n d_Lir_noteBroken_3 rfl 4 rfl ?_
    refine z_get d_Lir_noteBroken_4 7 rfl fl_Lir_19_10 wc_0 rfl ?_
    refine z_get d_Lir_noteBroken_7 10 rfl fl_Lir_53_6 wc_3 rfl ?_
    refine z_icmp_ge d_Lir_noteBroken_10 60 13 (by decide) rfl (fun hzz => absurd hzz (by rw [hn]; exact nI_ge hi (by omega))) (fun h2 => ?_)
    refine z_iload_n d_Lir_noteBroken_13 rfl 14 rfl ?_
    refine z_aload_n d_Lir_noteBroken_14 rfl 15 rfl ?_
    refine z_get d_Lir_noteBroken_15 18 rfl fl_Lir_30_10 wc_0 rfl ?_
    refine z_alenI d_Lir_noteBroken_18 19 rfl wc_44 30 (by decide) ?_
    refine z_icmp_ge d_Lir_noteBroken_19 60 22 (by decide) rfl (fun hzz => absurd hzz (show ¬ nI 30 ≤ nI i from nI_ge (by omega) (by decide))) (fun h3 => ?_)
    refine z_aload_n d_Lir_noteBroken_22 rfl 23 rfl ?_
    refine z_get d_Lir_noteBroken_23 26 rfl fl_Lir_19_10 wc_0 rfl ?_
    refine z_iload_n d_Lir_noteBroken_26 rfl 27 rfl ?_
    obtain ⟨j4, hTj4, hjj4⟩ := hTT.1 i hi
    have hPj4 : (wld (tk, tp, bt, (T, C, rc, PF, PS, g, pp, bn, sc), b, crf, cp (fun i => bk C g (sc 3) s i l) nt i) u tl)[51 + j4]? = some (tcell (fun k => s (6 + 6 * i + k))) := (wl_tl j4).trans hjj4
    refine z_invv d_Lir_noteBroken_27 30 rfl hm_Roo_tellingAt lk_Lir_74 im_Roo_tellingAt sl_Roo_Roo_tellingAt rfl wc_3 (r_Roo_tellingAt_s hn hn30 i _ hi hTj4) rfl rfl (by decide) rfl rfl (Nat.le_of_ble_eq_true rfl) ?_
    refine z_astore_n d_Lir_noteBroken_30 31 rfl (by decide) rfl ?_
    refine z_aload_n d_Lir_noteBroken_31 rfl 32 rfl ?_
    refine z_get d_Lir_noteBroken_32 35 rfl fl_Lir_30_10 wc_0 rfl ?_
    refine z_iload_n d_Lir_noteBroken_35 rfl 36 rfl ?_
    refine z_aload_n d_Lir_noteBroken_36 rfl 37 rfl ?_
    refine z_ifnonnull d_Lir_noteBroken_37 44 (by decide) ?_
    refine z_aload_n d_Lir_noteBroken_44 rfl 45 rfl ?_
    refine z_get d_Lir_noteBroken_45 48 rfl fl_Lir_19_10 wc_0 rfl ?_
    refine z_aload_n d_Lir_noteBroken_48 rfl 49 rfl ?_
    refine z_aload_n d_Lir_noteBroken_49 rfl 50 rfl ?_
    refine z_invv d_Lir_noteBroken_50 53 rfl hm_Roo_brokenBy lk_Lir_135 im_Roo_brokenBy sl_Roo_Roo_brokenBy rfl wc_3 (r_Roo_brokenBy _ _ hPj4 _ hl) rfl rfl (by decide) rfl rfl (Nat.le_of_ble_eq_true rfl) ?_
    refine z_iastore d_Lir_noteBroken_53 i 54 rfl wc_44 rfl (by omega) (by decide) ?_
    refine z_hp ws_44 ?_
    refine z_iinc d_Lir_noteBroken_54 1 (by decide) 57 rfl rfl (by decide) rfl ?_
    refine z_goto d_Lir_noteBroken_57 2 (by decide) ?_
    rw [← cp_s (fun i => bk C g (sc 3) s i l) nt i] at ih
    exact z_Lg _ ih (by simp [zLw, List.set, nI_succ])
def cvA (nt : Nat → Int32) (n : Nat) (c : Int32) : Bool := (List.range n).all (fun t => decide (nt t = 0) || !decide (nt t &&& c = 0))
theorem cvA_iff {nt : Nat → Int32} {n : Nat} {c : Int32} : cvA nt n c = true ↔ ∀ t, t < n → ¬ nt t = 0 → ¬ nt t &&& c = 0 := by
  unfold cvA
  rw [List.all_eq_true]
  refine ⟨fun h t ht h1 => ?_, fun h t ht => ?_⟩
  · have := h t (List.mem_range.mpr ht)
    simpa [h1] using this
  · have := h t (List.mem_range.mp ht)
    by_cases h1 : nt t = 0
    · simp [h1]
    · simp [h1, this h1]
theorem cvA_no {nt : Nat → Int32} {n : Nat} {c : Int32} (h : ¬ ∀ t, t < n → ¬ nt t = 0 → ¬ nt t &&& c = 0) : cvA nt n c = false := by
  cases hf : cvA nt n c with
  | false => rfl
  | true => exact absurd (cvA_iff.mp hf) h
def hfA (nt : Nat → Int32) (n : Nat) (x c : Int32) : Bool := decide (x ≤ 2 * sm (fun t => if nt t &&& (c ^^^ -1) = 0 then 1 else 0) n)
def mnC (Q : Int32 → Bool) (a : Nat) : Nat → Nat
  | 0 => a
  | i + 1 => if bcI (nI i) < bcI (nI (mnC Q a i)) then (if Q (nI i) = true then i else mnC Q a i) else mnC Q a i
def srC (nt : Nat → Int32) (n : Nat) : Nat → Int32 × Int32
  | 0 => (0, 0)
  | i + 1 => if fnd n (fun e => decide (nt e = nt i)) = nI i then ((srC nt n i).1 + 1, if (srC nt n i).2 < sm (fun e => if nt e = nt i then 1 else 0) n then sm (fun e => if nt e = nt i then 1 else 0) n else (srC nt n i).2) else srC nt n i
set_option maxHeartbeats 400000 in
theorem r_Lir_coversAll {tk : Int32} {tp bt crf nt : Nat → Int32} {T PF PS : Nat → Option Nat} {C : Nat → Nat → Int32} {rc g pp bn sc : Nat → Int32} {b : zR} {u : zU} {tl : List zC} {n : Nat} (hn : sc 0 = nI n) (hn30 : n ≤ 30) (c : Int32) : Ret 0 0 0 m_Lir_coversAll [.ref 0, .int c] (wld (tk, tp, bt, (T, C, rc, PF, PS, g, pp, bn, sc), b, crf, nt) u tl) (some (.int (zb (cvA nt n c)))) (wld (tk, tp, bt, (T, C, rc, PF, PS, g, pp, bn, sc), b, crf, nt) u tl) := by
  refine Ret.of (n := 1) (by decide) (zb_nar _) rfl (fun X => ?_)
  refine z_iconst d_Lir_coversAll_0 0 (by decide) 1 rfl ?_
  refine z_istore_n d_Lir_coversAll_1 2 rfl (by decide) rfl ?_
  refine zloop (fun i => (∀ q, q < i → ¬ nt q = 0 → ¬ nt q &&& c = 0) → Z X m_Lir_coversAll 0 0 0 (some (.int (zb (cvA nt n c)))) (wld (tk, tp, bt, (T, C, rc, PF, PS, g, pp, bn, sc), b, crf, nt) u tl) 2 [some (.ref 0), some (.int c), some (.int (nI i))] [] (wld (tk, tp, bt, (T, C, rc, PF, PS, g, pp, bn, sc), b, crf, nt) u tl)) (n) ?_ ?_ 0 (Nat.zero_le _) (fun q h => absurd h (Nat.not_lt_zero q))
  · intro hinv
    refine z_iload_n d_Lir_coversAll_2 rfl 3 rfl ?_
    refine z_aload_n d_Lir_coversAll_3 rfl 4 rfl ?_
    refine z_get d_Lir_coversAll_4 7 rfl fl_Lir_19_10 wc_0 rfl ?_
    refine z_get d_Lir_coversAll_7 10 rfl fl_Lir_53_6 wc_3 rfl ?_
    refine z_icmp_ge d_Lir_coversAll_10 50 13 (by decide) rfl (fun h1 => ?_) (fun hzz => absurd (by rw [hn]; exact Int32.le_refl _) hzz)
    refine z_iconst d_Lir_coversAll_50 1 (by decide) 51 rfl ?_
    exact z_ireturn d_Lir_coversAll_51 (by rw [cvA_iff.mpr (fun q hq h0 => hinv q hq h0)]; rfl) (rfl)
  · intro i hi ih hinv
    refine z_iload_n d_Lir_coversAll_2 rfl 3 rfl ?_
    refine z_aload_n d_Lir_coversAll_3 rfl 4 rfl ?_
    refine z_get d_Lir_coversAll_4 7 rfl fl_Lir_19_10 wc_0 rfl ?_
    refine z_get d_Lir_coversAll_7 10 rfl fl_Lir_53_6 wc_3 rfl ?_
    refine z_icmp_ge d_Lir_coversAll_10 50 13 (by decide) rfl (fun hzz => absurd hzz (by rw [hn]; exact nI_ge hi (by omega))) (fun h2 => ?_)
    refine z_iload_n d_Lir_coversAll_13 rfl 14 rfl ?_
    refine z_aload_n d_Lir_coversAll_14 rfl 15 rfl ?_
    refine z_get d_Lir_coversAll_15 18 rfl fl_Lir_30_10 wc_0 rfl ?_
    refine z_alenI d_Lir_coversAll_18 19 rfl wc_44 30 (by decide) ?_
    refine z_icmp_ge d_Lir_coversAll_19 50 22 (by decide) rfl (fun hzz => absurd hzz (show ¬ nI 30 ≤ nI i from nI_ge (by omega) (by decide))) (fun h3 => ?_)
    refine z_aload_n d_Lir_coversAll_22 rfl 23 rfl ?_
    refine z_get d_Lir_coversAll_23 26 rfl fl_Lir_30_10 wc_0 rfl ?_
    refine z_iload_n d_Lir_coversAll_26 rfl 27 rfl ?_
    refine z_iaload d_Lir_coversAll_27 (i) 28 rfl wc_44 (rfl) (by omega) (by decide) ?_
    refine z_if_eq d_Lir_coversAll_28 44 31 (by decide) rfl (fun h4 => ?_) (fun h4 => ?_)
    · refine z_iinc d_Lir_coversAll_44 1 (by decide) 47 rfl rfl (by decide) rfl ?_
      refine z_goto d_Lir_coversAll_47 2 (by decide) ?_
      exact z_L _ (by simp [List.set, nI_succ]) (ih (fun q hq h0 => by
        rcases Nat.lt_or_ge q i with h | h
        · exact hinv q h h0
        · have : q = i := by omega
          subst this
          first | exact absurd (by assumption) h0 | assumption))
    · refine z_aload_n d_Lir_coversAll_31 rfl 32 rfl ?_
      refine z_get d_Lir_coversAll_32 35 rfl fl_Lir_30_10 wc_0 rfl ?_
      refine z_iload_n d_Lir_coversAll_35 rfl 36 rfl ?_
      refine z_iaload d_Lir_coversAll_36 (i) 37 rfl wc_44 (rfl) (by omega) (by decide) ?_
      refine z_iload_n d_Lir_coversAll_37 rfl 38 rfl ?_
      refine z_iand d_Lir_coversAll_38 39 rfl ?_
      refine z_if_ne d_Lir_coversAll_39 44 42 (by decide) rfl (fun h5 => ?_) (fun h5 => ?_)
      · refine z_iinc d_Lir_coversAll_44 1 (by decide) 47 rfl rfl (by decide) rfl ?_
        refine z_goto d_Lir_coversAll_47 2 (by decide) ?_
        exact z_L _ (by simp [List.set, nI_succ]) (ih (fun q hq h0 => by
          rcases Nat.lt_or_ge q i with h | h
          · exact hinv q h h0
          · have : q = i := by omega
            subst this
            first | exact absurd (by assumption) h0 | assumption))
      · refine z_iconst d_Lir_coversAll_42 0 (by decide) 43 rfl ?_
        exact z_ireturn d_Lir_coversAll_43 (by rw [cvA_no (fun h => absurd (by assumption) (h i hi (by assumption)))]; rfl) (rfl)
set_option maxHeartbeats 400000 in
theorem r_Lir_halfFitsWithout {tk : Int32} {tp bt crf nt : Nat → Int32} {T PF PS : Nat → Option Nat} {C : Nat → Nat → Int32} {rc g pp bn sc : Nat → Int32} {b : zR} {u : zU} {tl : List zC} {n : Nat} (hn : sc 0 = nI n) (hn30 : n ≤ 30) (c : Int32) : Ret 0 0 0 m_Lir_halfFitsWithout [.ref 0, .int c] (wld (tk, tp, bt, (T, C, rc, PF, PS, g, pp, bn, sc), b, crf, nt) u tl) (some (.int (zb (hfA nt n (sc 0) c)))) (wld (tk, tp, bt, (T, C, rc, PF, PS, g, pp, bn, sc), b, crf, nt) u tl) := by
  refine Ret.of (n := 2) (by decide) (zb_nar _) rfl (fun X => ?_)
  refine z_iconst d_Lir_halfFitsWithout_0 0 (by decide) 1 rfl ?_
  refine z_istore_n d_Lir_halfFitsWithout_1 2 rfl (by decide) rfl ?_
  refine z_iconst d_Lir_halfFitsWithout_2 0 (by decide) 3 rfl ?_
  refine z_istore_n d_Lir_halfFitsWithout_3 4 rfl (by decide) rfl ?_
  refine zloop (fun i => Z X m_Lir_halfFitsWithout 0 0 0 (some (.int (zb (hfA nt n (sc 0) c)))) (wld (tk, tp, bt, (T, C, rc, PF, PS, g, pp, bn, sc), b, crf, nt) u tl) 4 [some (.ref 0), some (.int c), some (.int (sm (fun t => if nt t &&& (c ^^^ -1) = 0 then 1 else 0) i)), some (.int (nI i))] [] (wld (tk, tp, bt, (T, C, rc, PF, PS, g, pp, bn, sc), b, crf, nt) u tl)) (n) ?_ ?_ 0 (Nat.zero_le _)
  · refine z_iload_n d_Lir_halfFitsWithout_4 rfl 5 rfl ?_
    refine z_aload_n d_Lir_halfFitsWithout_5 rfl 6 rfl ?_
    refine z_get d_Lir_halfFitsWithout_6 9 rfl fl_Lir_19_10 wc_0 rfl ?_
    refine z_get d_Lir_halfFitsWithout_9 12 rfl fl_Lir_53_6 wc_3 rfl ?_
    refine z_icmp_ge d_Lir_halfFitsWithout_12 46 15 (by decide) rfl (fun h1 => ?_) (fun hzz => absurd (by rw [hn]; exact Int32.le_refl _) hzz)
    refine z_iconst d_Lir_halfFitsWithout_46 2 (by decide) 47 rfl ?_
    refine z_iload_n d_Lir_halfFitsWithout_47 rfl 48 rfl ?_
    refine z_imul d_Lir_halfFitsWithout_48 49 rfl ?_
    refine z_aload_n d_Lir_halfFitsWithout_49 rfl 50 rfl ?_
    refine z_get d_Lir_halfFitsWithout_50 53 rfl fl_Lir_19_10 wc_0 rfl ?_
    refine z_get d_Lir_halfFitsWithout_53 56 rfl fl_Lir_53_6 wc_3 rfl ?_
    refine z_icmp_lt d_Lir_halfFitsWithout_56 63 59 (by decide) rfl (fun h2 => ?_) (fun h2 => ?_)
    · have e3 : hfA nt n (sc 0) c = false := decide_eq_false (Int32.not_le.mpr h2)
      refine z_iconst d_Lir_halfFitsWithout_63 0 (by decide) 64 rfl ?_
      exact z_ireturn d_Lir_halfFitsWithout_64 (by rw [e3]; rfl) (rfl)
    · have e3 : hfA nt n (sc 0) c = true := decide_eq_true (Int32.not_lt.mp h2)
      refine z_iconst d_Lir_halfFitsWithout_59 1 (by decide) 60 rfl ?_
      refine z_goto d_Lir_halfFitsWithout_60 64 (by decide) ?_
      exact z_ireturn d_Lir_halfFitsWithout_64 (by rw [e3]; rfl) (rfl)
  · intro i hi ih
    refine z_iload_n d_Lir_halfFitsWithout_4 rfl 5 rfl ?_
    refine z_aload_n d_Lir_halfFitsWithout_5 rfl 6 rfl ?_
    refine z_get d_Lir_halfFitsWithout_6 9 rfl fl_Lir_19_10 wc_0 rfl ?_
    refine z_get d_Lir_halfFitsWithout_9 12 rfl fl_Lir_53_6 wc_3 rfl ?_
    refine z_icmp_ge d_Lir_halfFitsWithout_12 46 15 (by decide) rfl (fun hzz => absurd hzz (by rw [hn]; exact nI_ge hi (by omega))) (fun h3 => ?_)
    refine z_iload_n d_Lir_halfFitsWithout_15 rfl 16 rfl ?_
    refine z_aload_n d_Lir_halfFitsWithout_16 rfl 17 rfl ?_
    refine z_get d_Lir_halfFitsWithout_17 20 rfl fl_Lir_30_10 wc_0 rfl ?_
    refine z_alenI d_Lir_halfFitsWithout_20 21 rfl wc_44 30 (by decide) ?_
    refine z_icmp_ge d_Lir_halfFitsWithout_21 46 24 (by decide) rfl (fun hzz => absurd hzz (show ¬ nI 30 ≤ nI i from nI_ge (by omega) (by decide))) (fun h4 => ?_)
    refine z_aload_n d_Lir_halfFitsWithout_24 rfl 25 rfl ?_
    refine z_get d_Lir_halfFitsWithout_25 28 rfl fl_Lir_30_10 wc_0 rfl ?_
    refine z_iload_n d_Lir_halfFitsWithout_28 rfl 29 rfl ?_
    refine z_iaload d_Lir_halfFitsWithout_29 (i) 30 rfl wc_44 (rfl) (by omega) (by decide) ?_
    refine z_iload_n d_Lir_halfFitsWithout_30 rfl 31 rfl ?_
    refine z_iconst d_Lir_halfFitsWithout_31 (-1) (by decide) 32 rfl ?_
    refine z_ixor d_Lir_halfFitsWithout_32 33 rfl ?_
    refine z_iand d_Lir_halfFitsWithout_33 34 rfl ?_
    refine z_if_ne d_Lir_halfFitsWithout_34 40 37 (by decide) rfl (fun h5 => ?_) (fun h5 => ?_)
    · have e2 : sm (fun t => if nt t &&& (c ^^^ -1) = 0 then 1 else 0) (i + 1) = sm (fun t => if nt t &&& (c ^^^ -1) = 0 then 1 else 0) i := by simp only [sm]; rw [if_neg h5]; exact Int32.add_zero _
      refine z_iinc d_Lir_halfFitsWithout_40 1 (by decide) 43 rfl rfl (by decide) rfl ?_
      refine z_goto d_Lir_halfFitsWithout_43 4 (by decide) ?_
      exact z_Lg _ ih (by rw [e2]; simp [zLw, List.set, nI_succ])
    · have e2 : sm (fun t => if nt t &&& (c ^^^ -1) = 0 then 1 else 0) (i + 1) = sm (fun t => if nt t &&& (c ^^^ -1) = 0 then 1 else 0) i + 1 := by simp only [sm]; rw [if_pos (show nt i &&& (c ^^^ -1) = 0 from h5)]
      refine z_iinc d_Lir_halfFitsWithout_37 1 (by decide) 40 rfl rfl (by decide) rfl ?_
      refine z_iinc d_Lir_halfFitsWithout_40 1 (by decide) 43 rfl rfl (by decide) rfl ?_
      refine z_goto d_Lir_halfFitsWithout_43 4 (by decide) ?_
      exact z_Lg _ ih (by rw [e2]; simp [zLw, List.set, nI_succ])
set_option maxHeartbeats 400000 in
theorem r_Lir_firstNotedLike {tk : Int32} {tp bt crf nt : Nat → Int32} {T PF PS : Nat → Option Nat} {C : Nat → Nat → Int32} {rc g pp bn sc : Nat → Int32} {b : zR} {u : zU} {tl : List zC} (t k : Nat) (ht : t < 30) (hk : t < k) : Ret 0 0 0 m_Lir_firstNotedLike [.ref 0, .int (nI t)] (wld (tk, tp, bt, (T, C, rc, PF, PS, g, pp, bn, sc), b, crf, nt) u tl) (some (.int (fnd k (fun e => decide (nt e = nt t))))) (wld (tk, tp, bt, (T, C, rc, PF, PS, g, pp, bn, sc), b, crf, nt) u tl) := by
  refine Ret.of (n := 1) (by decide) (rfl) rfl (fun X => ?_)
  refine z_iconst d_Lir_firstNotedLike_0 0 (by decide) 1 rfl ?_
  refine z_istore_n d_Lir_firstNotedLike_1 2 rfl (by decide) rfl ?_
  refine zloop (fun i => (∀ q, q < i → ¬ nt q = nt t) → Z X m_Lir_firstNotedLike 0 0 0 (some (.int (fnd k (fun e => decide (nt e = nt t))))) (wld (tk, tp, bt, (T, C, rc, PF, PS, g, pp, bn, sc), b, crf, nt) u tl) 2 [some (.ref 0), some (.int (nI t)), some (.int (nI i))] [] (wld (tk, tp, bt, (T, C, rc, PF, PS, g, pp, bn, sc), b, crf, nt) u tl)) (t) ?_ ?_ 0 (Nat.zero_le _) (fun q h => absurd h (Nat.not_lt_zero q))
  · intro hinv
    refine z_iload_n d_Lir_firstNotedLike_2 rfl 3 rfl ?_
    refine z_iload_n d_Lir_firstNotedLike_3 rfl 4 rfl ?_
    refine z_icmp_ge d_Lir_firstNotedLike_4 39 7 (by decide) rfl (fun h1 => ?_) (fun hzz => absurd (Int32.le_refl _) hzz)
    refine z_iload_n d_Lir_firstNotedLike_39 rfl 40 rfl ?_
    exact z_ireturn d_Lir_firstNotedLike_40 (by rw [fnd_some (k := t) (p := fun e => decide (nt e = nt t)) (by omega) (by simp) (fun q hq => by simp [hinv q hq])]) (rfl)
  · intro i hi ih hinv
    refine z_iload_n d_Lir_firstNotedLike_2 rfl 3 rfl ?_
    refine z_iload_n d_Lir_firstNotedLike_3 rfl 4 rfl ?_
    refine z_icmp_ge d_Lir_firstNotedLike_4 39 7 (by decide) rfl (fun hzz => absurd hzz (nI_ge hi (by omega))) (fun h2 => ?_)
    refine z_iload_n d_Lir_firstNotedLike_7 rfl 8 rfl ?_
    refine z_aload_n d_Lir_firstNotedLike_8 rfl 9 rfl ?_
    refine z_get d_Lir_firstNotedLike_9 12 rfl fl_Lir_30_10 wc_0 rfl ?_
    refine z_alenI d_Lir_firstNotedLike_12 13 rfl wc_44 30 (by decide) ?_
    refine z_icmp_ge d_Lir_firstNotedLike_13 39 16 (by decide) rfl (fun hzz => absurd hzz (show ¬ nI 30 ≤ nI t from nI_ge ht (by decide))) (fun h3 => ?_)
    refine z_aload_n d_Lir_firstNotedLike_16 rfl 17 rfl ?_
    refine z_get d_Lir_firstNotedLike_17 20 rfl fl_Lir_30_10 wc_0 rfl ?_
    refine z_iload_n d_Lir_firstNotedLike_20 rfl 21 rfl ?_
    refine z_iaload d_Lir_firstNotedLike_21 (i) 22 rfl wc_44 (rfl) (by omega) (by decide) ?_
    refine z_aload_n d_Lir_firstNotedLike_22 rfl 23 rfl ?_
    refine z_get d_Lir_firstNotedLike_23 26 rfl fl_Lir_30_10 wc_0 rfl ?_
    refine z_iload_n d_Lir_firstNotedLike_26 rfl 27 rfl ?_
    refine z_iaload d_Lir_firstNotedLike_27 (t) 28 rfl wc_44 (rfl) (by omega) (by decide) ?_
    refine z_icmp_ne d_Lir_firstNotedLike_28 33 31 (by decide) rfl (fun h4 => ?_) (fun h4 => ?_)
    · refine z_iinc d_Lir_firstNotedLike_33 1 (by decide) 36 rfl rfl (by decide) rfl ?_
      refine z_goto d_Lir_firstNotedLike_36 2 (by decide) ?_
      exact z_L _ (by simp [List.set, nI_succ]) (ih (fun q hq => by
        rcases Nat.lt_or_ge q i with h | h
        · exact hinv q h
        · have : q = i := by omega
          subst this
          assumption))
    · refine z_iload_n d_Lir_firstNotedLike_31 rfl 32 rfl ?_
      exact z_ireturn d_Lir_firstNotedLike_32 (by rw [fnd_some (k := i) (p := fun e => decide (nt e = nt t)) (by omega) (by simpa using (by assumption)) (fun q hq => by simp [hinv q hq])]) (rfl)
set_option maxHeartbeats 400000 in
theorem r_Lir_howManyNotedLike {tk : Int32} {tp bt crf nt : Nat → Int32} {T PF PS : Nat → Option Nat} {C : Nat → Nat → Int32} {rc g pp bn sc : Nat → Int32} {b : zR} {u : zU} {tl : List zC} {n : Nat} (hn : sc 0 = nI n) (hn30 : n ≤ 30) (t : Nat) (ht : t < 30) : Ret 0 0 0 m_Lir_howManyNotedLike [.ref 0, .int (nI t)] (wld (tk, tp, bt, (T, C, rc, PF, PS, g, pp, bn, sc), b, crf, nt) u tl) (some (.int (sm (fun e => if nt e = nt t then 1 else 0) n))) (wld (tk, tp, bt, (T, C, rc, PF, PS, g, pp, bn, sc), b, crf, nt) u tl) := by
  refine Ret.of (n := 2) (by decide) (rfl) rfl (fun X => ?_)
  refine z_iconst d_Lir_howManyNotedLike_0 0 (by decide) 1 rfl ?_
  refine z_istore_n d_Lir_howManyNotedLike_1 2 rfl (by decide) rfl ?_
  refine z_iconst d_Lir_howManyNotedLike_2 0 (by decide) 3 rfl ?_
  refine z_istore_n d_Lir_howManyNotedLike_3 4 rfl (by decide) rfl ?_
  refine zloop (fun i => Z X m_Lir_howManyNotedLike 0 0 0 (some (.int (sm (fun e => if nt e = nt t then 1 else 0) n))) (wld (tk, tp, bt, (T, C, rc, PF, PS, g, pp, bn, sc), b, crf, nt) u tl) 4 [some (.ref 0), some (.int (nI t)), some (.int (sm (fun e => if nt e = nt t then 1 else 0) i)), some (.int (nI i))] [] (wld (tk, tp, bt, (T, C, rc, PF, PS, g, pp, bn, sc), b, crf, nt) u tl)) (n) ?_ ?_ 0 (Nat.zero_le _)
  · refine z_iload_n d_Lir_howManyNotedLike_4 rfl 5 rfl ?_
    refine z_aload_n d_Lir_howManyNotedLike_5 rfl 6 rfl ?_
    refine z_get d_Lir_howManyNotedLike_6 9 rfl fl_Lir_19_10 wc_0 rfl ?_
    refine z_get d_Lir_howManyNotedLike_9 12 rfl fl_Lir_53_6 wc_3 rfl ?_
    refine z_icmp_ge d_Lir_howManyNotedLike_12 61 15 (by decide) rfl (fun h1 => ?_) (fun hzz => absurd (by rw [hn]; exact Int32.le_refl _) hzz)
    refine z_iload_n d_Lir_howManyNotedLike_61 rfl 62 rfl ?_
    exact z_ireturn d_Lir_howManyNotedLike_62 (rfl) (rfl)
  · intro i hi ih
    refine z_iload_n d_Lir_howManyNotedLike_4 rfl 5 rfl ?_
    refine z_aload_n d_Lir_howManyNotedLike_5 rfl 6 rfl ?_
    refine z_get d_Lir_howManyNotedLike_6 9 rfl fl_Lir_19_10 wc_0 rfl ?_
    refine z_get d_Lir_howManyNotedLike_9 12 rfl fl_Lir_53_6 wc_3 rfl ?_
    refine z_icmp_ge d_Lir_howManyNotedLike_12 61 15 (by decide) rfl (fun hzz => absurd hzz (by rw [hn]; exact nI_ge hi (by omega))) (fun h2 => ?_)
    refine z_iload_n d_Lir_howManyNotedLike_15 rfl 16 rfl ?_
    refine z_aload_n d_Lir_howManyNotedLike_16 rfl 17 rfl ?_
    refine z_get d_Lir_howManyNotedLike_17 20 rfl fl_Lir_30_10 wc_0 rfl ?_
    refine z_alenI d_Lir_howManyNotedLike_20 21 rfl wc_44 30 (by decide) ?_
    refine z_icmp_ge d_Lir_howManyNotedLike_21 61 24 (by decide) rfl (fun hzz => absurd hzz (show ¬ nI 30 ≤ nI i from nI_ge (by omega) (by decide))) (fun h3 => ?_)
    refine z_iload_n d_Lir_howManyNotedLike_24 rfl 25 rfl ?_
    refine z_if_lt d_Lir_howManyNotedLike_25 55 28 (by decide) rfl (fun hzz => absurd hzz (nI_pos (by omega))) (fun h4 => ?_)
    refine z_iload_n d_Lir_howManyNotedLike_28 rfl 29 rfl ?_
    refine z_aload_n d_Lir_howManyNotedLike_29 rfl 30 rfl ?_
    refine z_get d_Lir_howManyNotedLike_30 33 rfl fl_Lir_30_10 wc_0 rfl ?_
    refine z_alenI d_Lir_howManyNotedLike_33 34 rfl wc_44 30 (by decide) ?_
    refine z_icmp_ge d_Lir_howManyNotedLike_34 55 37 (by decide) rfl (fun hzz => absurd hzz (show ¬ nI 30 ≤ nI t from nI_ge ht (by decide))) (fun h5 => ?_)
    refine z_aload_n d_Lir_howManyNotedLike_37 rfl 38 rfl ?_
    refine z_get d_Lir_howManyNotedLike_38 41 rfl fl_Lir_30_10 wc_0 rfl ?_
    refine z_iload_n d_Lir_howManyNotedLike_41 rfl 42 rfl ?_
    refine z_iaload d_Lir_howManyNotedLike_42 (i) 43 rfl wc_44 (rfl) (by omega) (by decide) ?_
    refine z_aload_n d_Lir_howManyNotedLike_43 rfl 44 rfl ?_
    refine z_get d_Lir_howManyNotedLike_44 47 rfl fl_Lir_30_10 wc_0 rfl ?_
    refine z_iload_n d_Lir_howManyNotedLike_47 rfl 48 rfl ?_
    refine z_iaload d_Lir_howManyNotedLike_48 (t) 49 rfl wc_44 (rfl) (by omega) (by decide) ?_
    refine z_icmp_ne d_Lir_howManyNotedLike_49 55 52 (by decide) rfl (fun h6 => ?_) (fun h6 => ?_)
    · have e2 : sm (fun e => if nt e = nt t then 1 else 0) (i + 1) = sm (fun e => if nt e = nt t then 1 else 0) i := by simp only [sm]; rw [if_neg h6]; exact Int32.add_zero _
      refine z_iinc d_Lir_howManyNotedLike_55 1 (by decide) 58 rfl rfl (by decide) rfl ?_
      refine z_goto d_Lir_howManyNotedLike_58 4 (by decide) ?_
      exact z_Lg _ ih (by rw [e2]; simp [zLw, List.set, nI_succ])
    · have e2 : sm (fun e => if nt e = nt t then 1 else 0) (i + 1) = sm (fun e => if nt e = nt t then 1 else 0) i + 1 := by simp only [sm]; rw [if_pos (show nt i = nt t from h6)]
      refine z_iinc d_Lir_howManyNotedLike_52 1 (by decide) 55 rfl rfl (by decide) rfl ?_
      refine z_iinc d_Lir_howManyNotedLike_55 1 (by decide) 58 rfl rfl (by decide) rfl ?_
      refine z_goto d_Lir_howManyNotedLike_58 4 (by decide) ?_
      exact z_Lg _ ih (by rw [e2]; simp [zLw, List.set, nI_succ])
set_option maxHeartbeats 400000 in
theorem r_Lir_cover {tk : Int32} {tp bt crf nt : Nat → Int32} {T PF PS : Nat → Option Nat} {C : Nat → Nat → Int32} {rc g pp bn sc : Nat → Int32} {b : zR} {u : zU} {tl : List zC} {s : Nat → Int32} {n : Nat} (hn : sc 0 = nI n) (hn30 : n ≤ 30) (hTT : TT tl T s n) : Ret 6 0 0 m_Lir_cover [.ref 0] (wld (tk, tp, bt, (T, C, rc, PF, PS, g, pp, bn, sc), b, crf, nt) u tl) (some (.int (nI (mnC (cvA (cp (lf C g (sc 3) s) nt n) n) 63 64)))) (wld (tk, tp, bt, (T, C, rc, PF, PS, g, pp, bn, sc), b, crf, cp (lf C g (sc 3) s) nt n) u tl) := by
  refine Ret.of (n := 2) (by decide) (rfl) rfl (fun X => ?_)
  refine z_aload_n d_Lir_cover_0 rfl 1 rfl ?_
  refine z_invvv d_Lir_cover_1 4 rfl hm_Lir_noteLaws lk_Lir_156 im_Lir_noteLaws sl_Lir_Lir_noteLaws rfl wc_0 (r_Lir_noteLaws hn hn30 hTT) rfl rfl (by decide) rfl rfl (Nat.le_of_ble_eq_true rfl) ?_
  refine z_bipush d_Lir_cover_4 63 (by decide) 6 rfl ?_
  refine z_istore_n d_Lir_cover_6 7 rfl (by decide) rfl ?_
  refine z_iconst d_Lir_cover_7 0 (by decide) 8 rfl ?_
  refine z_istore_n d_Lir_cover_8 9 rfl (by decide) rfl ?_
  refine z_Lw ([some (.ref 0), some (.int (nI (mnC (cvA (cp (lf C g (sc 3) s) nt n) n) 63 0))), some (.int (nI 0))]) (by simp [zLw, List.set, zargs, nI_0, mnC]; try rfl) ?_
  refine zloop (fun i => Z X m_Lir_cover 6 0 0 (some (.int (nI (mnC (cvA (cp (lf C g (sc 3) s) nt n) n) 63 64)))) (wld (tk, tp, bt, (T, C, rc, PF, PS, g, pp, bn, sc), b, crf, cp (lf C g (sc 3) s) nt n) u tl) 9 [some (.ref 0), some (.int (nI (mnC (cvA (cp (lf C g (sc 3) s) nt n) n) 63 i))), some (.int (nI i))] [] (wld (tk, tp, bt, (T, C, rc, PF, PS, g, pp, bn, sc), b, crf, cp (lf C g (sc 3) s) nt n) u tl)) (64) ?_ ?_ 0 (Nat.zero_le _)
  · refine z_iload_n d_Lir_cover_9 rfl 10 rfl ?_
    refine z_bipush d_Lir_cover_10 64 (by decide) 12 rfl ?_
    refine z_icmp_ge d_Lir_cover_12 42 15 (by decide) rfl (fun h1 => ?_) (fun hzz => absurd (by decide) hzz)
    refine z_iload_n d_Lir_cover_42 rfl 43 rfl ?_
    exact z_ireturn d_Lir_cover_43 (rfl) (rfl)
  · intro i hi ih
    refine z_iload_n d_Lir_cover_9 rfl 10 rfl ?_
    refine z_bipush d_Lir_cover_10 64 (by decide) 12 rfl ?_
    refine z_icmp_ge d_Lir_cover_12 42 15 (by decide) rfl (fun hzz => absurd hzz (show ¬ nI 64 ≤ nI i from nI_ge hi (by decide))) (fun h2 => ?_)
    refine z_iload_n d_Lir_cover_15 rfl 16 rfl ?_
    refine z_invs d_Lir_cover_16 19 rfl hm_Int_bitCount lk_Lir_159 st_Int_bitCount (r_Int_bitCount _) rfl rfl (by decide) rfl rfl (Nat.le_of_ble_eq_true rfl) ?_
    refine z_iload_n d_Lir_cover_19 rfl 20 rfl ?_
    refine z_invs d_Lir_cover_20 23 rfl hm_Int_bitCount lk_Lir_159 st_Int_bitCount (r_Int_bitCount _) rfl rfl (by decide) rfl rfl (Nat.le_of_ble_eq_true rfl) ?_
    refine z_icmp_ge d_Lir_cover_23 36 26 (by decide) rfl (fun h3 => ?_) (fun h3 => ?_)
    · have e2 : mnC (cvA (cp (lf C g (sc 3) s) nt n) n) 63 (i + 1) = mnC (cvA (cp (lf C g (sc 3) s) nt n) n) 63 i := by simp only [mnC]; rw [if_neg (Int32.not_lt.mpr h3)]
      refine z_iinc d_Lir_cover_36 1 (by decide) 39 rfl rfl (by decide) rfl ?_
      refine z_goto d_Lir_cover_39 9 (by decide) ?_
      exact z_Lg _ ih (by rw [e2]; simp [zLw, List.set, nI_succ])
    · have e1 := Int32.not_le.mp h3
      refine z_aload_n d_Lir_cover_26 rfl 27 rfl ?_
      refine z_iload_n d_Lir_cover_27 rfl 28 rfl ?_
      refine z_invv d_Lir_cover_28 31 rfl hm_Lir_coversAll lk_Lir_164 im_Lir_coversAll sl_Lir_Lir_coversAll rfl wc_0 (r_Lir_coversAll hn hn30 _) rfl rfl (by decide) rfl rfl (Nat.le_of_ble_eq_true rfl) ?_
      refine z_if_eq d_Lir_cover_31 36 34 (by decide) rfl (fun h4 => ?_) (fun h4 => ?_)
      · have e2 : mnC (cvA (cp (lf C g (sc 3) s) nt n) n) 63 (i + 1) = mnC (cvA (cp (lf C g (sc 3) s) nt n) n) 63 i := by simp only [mnC]; rw [if_pos e1, if_neg (by rw [(zb_eq _).mp h4]; decide)]
        refine z_iinc d_Lir_cover_36 1 (by decide) 39 rfl rfl (by decide) rfl ?_
        refine z_goto d_Lir_cover_39 9 (by decide) ?_
        exact z_Lg _ ih (by rw [e2]; simp [zLw, List.set, nI_succ])
      · have e2 : mnC (cvA (cp (lf C g (sc 3) s) nt n) n) 63 (i + 1) = i := by simp only [mnC]; rw [if_pos e1, if_pos ((zb_ne _).mp h4)]
        refine z_iload_n d_Lir_cover_34 rfl 35 rfl ?_
        refine z_istore_n d_Lir_cover_35 36 rfl (by decide) rfl ?_
        refine z_iinc d_Lir_cover_36 1 (by decide) 39 rfl rfl (by decide) rfl ?_
        refine z_goto d_Lir_cover_39 9 (by decide) ?_
        exact z_Lg _ ih (by rw [e2]; simp [zLw, List.set, nI_succ])
set_option maxHeartbeats 400000 in
theorem r_Lir_half_1 {tk : Int32} {tp bt crf nt : Nat → Int32} {T PF PS : Nat → Option Nat} {C : Nat → Nat → Int32} {rc g pp bn sc : Nat → Int32} {b : zR} {u : zU} {tl : List zC}  (l : Int32) (h : inR l 6 = false) : Ret 6 0 0 m_Lir_half [.ref 0, .int l] (wld (tk, tp, bt, (T, C, rc, PF, PS, g, pp, bn, sc), b, crf, nt) u tl) (some (.int (-1))) (wld (tk, tp, bt, (T, C, rc, PF, PS, g, pp, bn, sc), b, rfu crf 1, nt) u tl) := by
  refine Ret.of (n := 3) (by decide) (rfl) rfl (fun X => ?_)
  refine z_aload_n d_Lir_half_0 rfl 1 rfl ?_
  refine z_get d_Lir_half_1 4 rfl fl_Lir_19_10 wc_0 rfl ?_
  refine z_iload_n d_Lir_half_4 rfl 5 rfl ?_
  refine z_invv d_Lir_half_5 8 rfl hm_Roo_lawAt lk_Lir_104 im_Roo_lawAt sl_Roo_Roo_lawAt rfl wc_3 (r_Roo_lawAt_n l h) rfl rfl (by decide) rfl rfl (Nat.le_of_ble_eq_true rfl) ?_
  refine z_astore_nN d_Lir_half_8 9 rfl (by decide) rfl ?_
  refine z_aload_nN d_Lir_half_9 rfl 10 rfl ?_
  refine z_ifnonnullN d_Lir_half_10 13 rfl ?_
  refine z_aload_n d_Lir_half_13 rfl 14 rfl ?_
  refine z_iconst d_Lir_half_14 (-1) (by decide) 15 rfl ?_
  refine z_invv d_Lir_half_15 18 rfl hm_Lir_refuse lk_Lir_37 im_Lir_refuse sl_Lir_Lir_refuse rfl wc_0 (r_Lir_refuse (-1) 1 (by decide) (by decide)) rfl rfl (by decide) rfl rfl (Nat.le_of_ble_eq_true rfl) ?_
  exact z_ireturn d_Lir_half_18 (rfl) (rfl)
set_option maxHeartbeats 400000 in
theorem r_Lir_half_0 {tk : Int32} {tp bt crf nt : Nat → Int32} {T PF PS : Nat → Option Nat} {C : Nat → Nat → Int32} {rc g pp bn sc : Nat → Int32} {b : zR} {u : zU} {tl : List zC} {s : Nat → Int32} {n : Nat} (hn : sc 0 = nI n) (hn30 : n ≤ 30) (hTT : TT tl T s n) (l : Nat) (hl : l < 6) : Ret 6 0 0 m_Lir_half [.ref 0, .int (nI l)] (wld (tk, tp, bt, (T, C, rc, PF, PS, g, pp, bn, sc), b, crf, nt) u tl) (some (.int (nI (mnC (hfA (cp (fun i => bk C g (sc 3) s i l) nt n) n (sc 0)) 127 128)))) (wld (tk, tp, bt, (T, C, rc, PF, PS, g, pp, bn, sc), b, crf, cp (fun i => bk C g (sc 3) s i l) nt n) u tl) := by
  refine Ret.of (n := 3) (by decide) (rfl) rfl (fun X => ?_)
  refine z_aload_n d_Lir_half_0 rfl 1 rfl ?_
  refine z_get d_Lir_half_1 4 rfl fl_Lir_19_10 wc_0 rfl ?_
  refine z_iload_n d_Lir_half_4 rfl 5 rfl ?_
  refine z_invv d_Lir_half_5 8 rfl hm_Roo_lawAt lk_Lir_104 im_Roo_lawAt sl_Roo_Roo_lawAt rfl wc_3 (r_Roo_lawAt_s l hl) rfl rfl (by decide) rfl rfl (Nat.le_of_ble_eq_true rfl) ?_
  refine z_astore_n d_Lir_half_8 9 rfl (by decide) rfl ?_
  refine z_aload_n d_Lir_half_9 rfl 10 rfl ?_
  refine z_ifnonnull d_Lir_half_10 19 (by decide) ?_
  refine z_aload_n d_Lir_half_19 rfl 20 rfl ?_
  refine z_aload_n d_Lir_half_20 rfl 21 rfl ?_
  refine z_invvv d_Lir_half_21 24 rfl hm_Lir_noteBroken lk_Lir_167 im_Lir_noteBroken sl_Lir_Lir_noteBroken rfl wc_0 (r_Lir_noteBroken hn hn30 hTT l hl) rfl rfl (by decide) rfl rfl (Nat.le_of_ble_eq_true rfl) ?_
  refine z_bipush d_Lir_half_24 127 (by decide) 26 rfl ?_
  refine z_istore_n d_Lir_half_26 27 rfl (by decide) rfl ?_
  refine z_iconst d_Lir_half_27 0 (by decide) 28 rfl ?_
  refine z_istore d_Lir_half_28 30 rfl (by decide) rfl ?_
  refine z_Lw ([some (.ref 0), some (.int (nI l)), some (.ref (6 + 2 * l)), some (.int (nI (mnC (hfA (cp (fun i => bk C g (sc 3) s i l) nt n) n (sc 0)) 127 0))), some (.int (nI 0))]) (by simp [zLw, List.set, zargs, nI_0, mnC]; try rfl) ?_
  refine zloop (fun i => Z X m_Lir_half 6 0 0 (some (.int (nI (mnC (hfA (cp (fun i => bk C g (sc 3) s i l) nt n) n (sc 0)) 127 128)))) (wld (tk, tp, bt, (T, C, rc, PF, PS, g, pp, bn, sc), b, crf, cp (fun i => bk C g (sc 3) s i l) nt n) u tl) 30 [some (.ref 0), some (.int (nI l)), some (.ref (6 + 2 * l)), some (.int (nI (mnC (hfA (cp (fun i => bk C g (sc 3) s i l) nt n) n (sc 0)) 127 i))), some (.int (nI i))] [] (wld (tk, tp, bt, (T, C, rc, PF, PS, g, pp, bn, sc), b, crf, cp (fun i => bk C g (sc 3) s i l) nt n) u tl)) (128) ?_ ?_ 0 (Nat.zero_le _)
  · refine z_iload d_Lir_half_30 rfl 32 rfl ?_
    refine z_sipush d_Lir_half_32 128 (by decide) 35 rfl ?_
    refine z_icmp_ge d_Lir_half_35 68 38 (by decide) rfl (fun h1 => ?_) (fun hzz => absurd (by decide) hzz)
    refine z_iload_n d_Lir_half_68 rfl 69 rfl ?_
    exact z_ireturn d_Lir_half_69 (rfl) (rfl)
  · intro i hi ih
    refine z_iload d_Lir_half_30 rfl 32 rfl ?_
    refine z_sipush d_Lir_half_32 128 (by decide) 35 rfl ?_
    refine z_icmp_ge d_Lir_half_35 68 38 (by decide) rfl (fun hzz => absurd hzz (show ¬ nI 128 ≤ nI i from nI_ge hi (by decide))) (fun h2 => ?_)
    refine z_iload d_Lir_half_38 rfl 40 rfl ?_
    refine z_invs d_Lir_half_40 43 rfl hm_Int_bitCount lk_Lir_159 st_Int_bitCount (r_Int_bitCount _) rfl rfl (by decide) rfl rfl (Nat.le_of_ble_eq_true rfl) ?_
    refine z_iload_n d_Lir_half_43 rfl 44 rfl ?_
    refine z_invs d_Lir_half_44 47 rfl hm_Int_bitCount lk_Lir_159 st_Int_bitCount (r_Int_bitCount _) rfl rfl (by decide) rfl rfl (Nat.le_of_ble_eq_true rfl) ?_
    refine z_icmp_ge d_Lir_half_47 62 50 (by decide) rfl (fun h3 => ?_) (fun h3 => ?_)
    · have e2 : mnC (hfA (cp (fun i => bk C g (sc 3) s i l) nt n) n (sc 0)) 127 (i + 1) = mnC (hfA (cp (fun i => bk C g (sc 3) s i l) nt n) n (sc 0)) 127 i := by simp only [mnC]; rw [if_neg (Int32.not_lt.mpr h3)]
      refine z_iinc d_Lir_half_62 1 (by decide) 65 rfl rfl (by decide) rfl ?_
      refine z_goto d_Lir_half_65 30 (by decide) ?_
      exact z_Lg _ ih (by rw [e2]; simp [zLw, List.set, nI_succ])
    · have e1 := Int32.not_le.mp h3
      refine z_aload_n d_Lir_half_50 rfl 51 rfl ?_
      refine z_iload d_Lir_half_51 rfl 53 rfl ?_
      refine z_invv d_Lir_half_53 56 rfl hm_Lir_halfFitsWithout lk_Lir_171 im_Lir_halfFitsWithout sl_Lir_Lir_halfFitsWithout rfl wc_0 (r_Lir_halfFitsWithout hn hn30 _) rfl rfl (by decide) rfl rfl (Nat.le_of_ble_eq_true rfl) ?_
      refine z_if_eq d_Lir_half_56 62 59 (by decide) rfl (fun h4 => ?_) (fun h4 => ?_)
      · have e2 : mnC (hfA (cp (fun i => bk C g (sc 3) s i l) nt n) n (sc 0)) 127 (i + 1) = mnC (hfA (cp (fun i => bk C g (sc 3) s i l) nt n) n (sc 0)) 127 i := by simp only [mnC]; rw [if_pos e1, if_neg (by rw [(zb_eq _).mp h4]; decide)]
        refine z_iinc d_Lir_half_62 1 (by decide) 65 rfl rfl (by decide) rfl ?_
        refine z_goto d_Lir_half_65 30 (by decide) ?_
        exact z_Lg _ ih (by rw [e2]; simp [zLw, List.set, nI_succ])
      · have e2 : mnC (hfA (cp (fun i => bk C g (sc 3) s i l) nt n) n (sc 0)) 127 (i + 1) = i := by simp only [mnC]; rw [if_pos e1, if_pos ((zb_ne _).mp h4)]
        refine z_iload d_Lir_half_59 rfl 61 rfl ?_
        refine z_istore_n d_Lir_half_61 62 rfl (by decide) rfl ?_
        refine z_iinc d_Lir_half_62 1 (by decide) 65 rfl rfl (by decide) rfl ?_
        refine z_goto d_Lir_half_65 30 (by decide) ?_
        exact z_Lg _ ih (by rw [e2]; simp [zLw, List.set, nI_succ])
set_option maxHeartbeats 400000 in
theorem r_Lir_sorts_2 {tk : Int32} {tp bt crf nt : Nat → Int32} {T PF PS : Nat → Option Nat} {C : Nat → Nat → Int32} {rc g pp bn sc : Nat → Int32} {b : zR} {u : zU} {tl : List zC}  (w : Int32) (hw0 : ¬ w = 0) (hw1 : ¬ w = 1) : Ret 6 0 0 m_Lir_sorts [.ref 0, .int w] (wld (tk, tp, bt, (T, C, rc, PF, PS, g, pp, bn, sc), b, crf, nt) u tl) (some (.int (-2))) (wld (tk, tp, bt, (T, C, rc, PF, PS, g, pp, bn, sc), b, rfu crf 2, nt) u tl) := by
  refine Ret.of (n := 3) (by decide) (rfl) rfl (fun X => ?_)
  refine z_iload_n d_Lir_sorts_0 rfl 1 rfl ?_
  refine z_if_eq d_Lir_sorts_1 16 4 (by decide) rfl (fun hzz => absurd hzz hw0) (fun h1 => ?_)
  refine z_iload_n d_Lir_sorts_4 rfl 5 rfl ?_
  refine z_iconst d_Lir_sorts_5 1 (by decide) 6 rfl ?_
  refine z_icmp_eq d_Lir_sorts_6 16 9 (by decide) rfl (fun hzz => absurd hzz hw1) (fun h2 => ?_)
  refine z_aload_n d_Lir_sorts_9 rfl 10 rfl ?_
  refine z_bipush d_Lir_sorts_10 (-2) (by decide) 12 rfl ?_
  refine z_invv d_Lir_sorts_12 15 rfl hm_Lir_refuse lk_Lir_37 im_Lir_refuse sl_Lir_Lir_refuse rfl wc_0 (r_Lir_refuse (-2) 2 (by decide) (by decide)) rfl rfl (by decide) rfl rfl (Nat.le_of_ble_eq_true rfl) ?_
  exact z_ireturn d_Lir_sorts_15 (rfl) (rfl)
set_option maxHeartbeats 400000 in
theorem r_Lir_sorts_0 {tk : Int32} {tp bt crf nt : Nat → Int32} {T PF PS : Nat → Option Nat} {C : Nat → Nat → Int32} {rc g pp bn sc : Nat → Int32} {b : zR} {u : zU} {tl : List zC} {s : Nat → Int32} {n : Nat} (hn : sc 0 = nI n) (hn30 : n ≤ 30) (hTT : TT tl T s n) : Ret 6 0 0 m_Lir_sorts [.ref 0, .int 0] (wld (tk, tp, bt, (T, C, rc, PF, PS, g, pp, bn, sc), b, crf, nt) u tl) (some (.int ((srC (cp (lf C g (sc 3) s) nt n) n n).1))) (wld (tk, tp, bt, (T, C, rc, PF, PS, g, pp, bn, sc), b, crf, cp (lf C g (sc 3) s) nt n) u tl) := by
  refine Ret.of (n := 3) (by decide) (rfl) rfl (fun X => ?_)
  refine z_iload_n d_Lir_sorts_0 rfl 1 rfl ?_
  refine z_if_eq d_Lir_sorts_1 16 4 (by decide) rfl (fun h1 => ?_) (fun hzz => absurd (by decide) hzz)
  refine z_aload_n d_Lir_sorts_16 rfl 17 rfl ?_
  refine z_invvv d_Lir_sorts_17 20 rfl hm_Lir_noteLaws lk_Lir_156 im_Lir_noteLaws sl_Lir_Lir_noteLaws rfl wc_0 (r_Lir_noteLaws hn hn30 hTT) rfl rfl (by decide) rfl rfl (Nat.le_of_ble_eq_true rfl) ?_
  refine z_iconst d_Lir_sorts_20 0 (by decide) 21 rfl ?_
  refine z_istore_n d_Lir_sorts_21 22 rfl (by decide) rfl ?_
  refine z_iconst d_Lir_sorts_22 0 (by decide) 23 rfl ?_
  refine z_istore_n d_Lir_sorts_23 24 rfl (by decide) rfl ?_
  refine z_iconst d_Lir_sorts_24 0 (by decide) 25 rfl ?_
  refine z_istore d_Lir_sorts_25 27 rfl (by decide) rfl ?_
  refine z_Lw ([some (.ref 0), some (.int 0), some (.int (srC (cp (lf C g (sc 3) s) nt n) n 0).1), some (.int (srC (cp (lf C g (sc 3) s) nt n) n 0).2), some (.int (nI 0))]) (by simp [zLw, List.set, zargs, nI_0, srC]; try rfl) ?_
  refine zloop (fun i => Z X m_Lir_sorts 6 0 0 (some (.int ((srC (cp (lf C g (sc 3) s) nt n) n n).1))) (wld (tk, tp, bt, (T, C, rc, PF, PS, g, pp, bn, sc), b, crf, cp (lf C g (sc 3) s) nt n) u tl) 27 [some (.ref 0), some (.int 0), some (.int (srC (cp (lf C g (sc 3) s) nt n) n i).1), some (.int (srC (cp (lf C g (sc 3) s) nt n) n i).2), some (.int (nI i))] [] (wld (tk, tp, bt, (T, C, rc, PF, PS, g, pp, bn, sc), b, crf, cp (lf C g (sc 3) s) nt n) u tl)) (n) ?_ ?_ 0 (Nat.zero_le _)
  · refine z_iload d_Lir_sorts_27 rfl 29 rfl ?_
    refine z_aload_n d_Lir_sorts_29 rfl 30 rfl ?_
    refine z_get d_Lir_sorts_30 33 rfl fl_Lir_19_10 wc_0 rfl ?_
    refine z_get d_Lir_sorts_33 36 rfl fl_Lir_53_6 wc_3 rfl ?_
    refine z_icmp_ge d_Lir_sorts_36 70 39 (by decide) rfl (fun h2 => ?_) (fun hzz => absurd (by rw [hn]; exact Int32.le_refl _) hzz)
    refine z_iload_n d_Lir_sorts_70 rfl 71 rfl ?_
    refine z_if_ne d_Lir_sorts_71 78 74 (by decide) rfl (fun hzz => absurd rfl hzz) (fun h3 => ?_)
    refine z_iload_n d_Lir_sorts_74 rfl 75 rfl ?_
    refine z_goto d_Lir_sorts_75 79 (by decide) ?_
    exact z_ireturn d_Lir_sorts_79 (rfl) (rfl)
  · intro i hi ih
    refine z_iload d_Lir_sorts_27 rfl 29 rfl ?_
    refine z_aload_n d_Lir_sorts_29 rfl 30 rfl ?_
    refine z_get d_Lir_sorts_30 33 rfl fl_Lir_19_10 wc_0 rfl ?_
    refine z_get d_Lir_sorts_33 36 rfl fl_Lir_53_6 wc_3 rfl ?_
    refine z_icmp_ge d_Lir_sorts_36 70 39 (by decide) rfl (fun hzz => absurd hzz (by rw [hn]; exact nI_ge hi (by omega))) (fun h4 => ?_)
    refine z_aload_n d_Lir_sorts_39 rfl 40 rfl ?_
    refine z_iload d_Lir_sorts_40 rfl 42 rfl ?_
    refine z_invv d_Lir_sorts_42 45 rfl hm_Lir_firstNotedLike lk_Lir_174 im_Lir_firstNotedLike sl_Lir_Lir_firstNotedLike rfl wc_0 (r_Lir_firstNotedLike i n (by omega) hi) rfl rfl (by decide) rfl rfl (Nat.le_of_ble_eq_true rfl) ?_
    refine z_iload d_Lir_sorts_45 rfl 47 rfl ?_
    refine z_icmp_ne d_Lir_sorts_47 64 50 (by decide) rfl (fun h5 => ?_) (fun h5 => ?_)
    · have e2 : srC (cp (lf C g (sc 3) s) nt n) n (i + 1) = srC (cp (lf C g (sc 3) s) nt n) n i := by simp only [srC]; rw [if_neg h5]
      refine z_iinc d_Lir_sorts_64 1 (by decide) 67 rfl rfl (by decide) rfl ?_
      refine z_goto d_Lir_sorts_67 27 (by decide) ?_
      exact z_Lg _ ih (by rw [e2]; simp [zLw, List.set, nI_succ])
    · have e2 : srC (cp (lf C g (sc 3) s) nt n) n (i + 1) = ((srC (cp (lf C g (sc 3) s) nt n) n i).1 + 1, if (srC (cp (lf C g (sc 3) s) nt n) n i).2 < sm (fun e => if (cp (lf C g (sc 3) s) nt n) e = (cp (lf C g (sc 3) s) nt n) i then 1 else 0) n then sm (fun e => if (cp (lf C g (sc 3) s) nt n) e = (cp (lf C g (sc 3) s) nt n) i then 1 else 0) n else (srC (cp (lf C g (sc 3) s) nt n) n i).2) := by simp only [srC]; rw [if_pos h5]
      refine z_iinc d_Lir_sorts_50 1 (by decide) 53 rfl rfl (by decide) rfl ?_
      refine z_iload_n d_Lir_sorts_53 rfl 54 rfl ?_
      refine z_aload_n d_Lir_sorts_54 rfl 55 rfl ?_
      refine z_iload d_Lir_sorts_55 rfl 57 rfl ?_
      refine z_invv d_Lir_sorts_57 60 rfl hm_Lir_howManyNotedLike lk_Lir_177 im_Lir_howManyNotedLike sl_Lir_Lir_howManyNotedLike rfl wc_0 (r_Lir_howManyNotedLike hn hn30 i (by omega)) rfl rfl (by decide) rfl rfl (Nat.le_of_ble_eq_true rfl) ?_
      refine z_mmax d_Lir_sorts_60 63 rfl lk_Lir_180 st_Mat_max zi_Mat (hm_Mat_max).1 (by decide) (Nat.le_of_ble_eq_true rfl) ?_
      refine z_istore_n d_Lir_sorts_63 64 rfl (by decide) rfl ?_
      refine z_iinc d_Lir_sorts_64 1 (by decide) 67 rfl rfl (by decide) rfl ?_
      refine z_goto d_Lir_sorts_67 27 (by decide) ?_
      exact z_Lg _ ih (by rw [e2]; simp [zLw, List.set, nI_succ])
set_option maxHeartbeats 400000 in
theorem r_Lir_sorts_1 {tk : Int32} {tp bt crf nt : Nat → Int32} {T PF PS : Nat → Option Nat} {C : Nat → Nat → Int32} {rc g pp bn sc : Nat → Int32} {b : zR} {u : zU} {tl : List zC} {s : Nat → Int32} {n : Nat} (hn : sc 0 = nI n) (hn30 : n ≤ 30) (hTT : TT tl T s n) : Ret 6 0 0 m_Lir_sorts [.ref 0, .int 1] (wld (tk, tp, bt, (T, C, rc, PF, PS, g, pp, bn, sc), b, crf, nt) u tl) (some (.int ((srC (cp (lf C g (sc 3) s) nt n) n n).2))) (wld (tk, tp, bt, (T, C, rc, PF, PS, g, pp, bn, sc), b, crf, cp (lf C g (sc 3) s) nt n) u tl) := by
  refine Ret.of (n := 3) (by decide) (rfl) rfl (fun X => ?_)
  refine z_iload_n d_Lir_sorts_0 rfl 1 rfl ?_
  refine z_if_eq d_Lir_sorts_1 16 4 (by decide) rfl (fun hzz => absurd hzz (by decide)) (fun h1 => ?_)
  refine z_iload_n d_Lir_sorts_4 rfl 5 rfl ?_
  refine z_iconst d_Lir_sorts_5 1 (by decide) 6 rfl ?_
  refine z_icmp_eq d_Lir_sorts_6 16 9 (by decide) rfl (fun h2 => ?_) (fun hzz => absurd (by decide) hzz)
  refine z_aload_n d_Lir_sorts_16 rfl 17 rfl ?_
  refine z_invvv d_Lir_sorts_17 20 rfl hm_Lir_noteLaws lk_Lir_156 im_Lir_noteLaws sl_Lir_Lir_noteLaws rfl wc_0 (r_Lir_noteLaws hn hn30 hTT) rfl rfl (by decide) rfl rfl (Nat.le_of_ble_eq_true rfl) ?_
  refine z_iconst d_Lir_sorts_20 0 (by decide) 21 rfl ?_
  refine z_istore_n d_Lir_sorts_21 22 rfl (by decide) rfl ?_
  refine z_iconst d_Lir_sorts_22 0 (by decide) 23 rfl ?_
  refine z_istore_n d_Lir_sorts_23 24 rfl (by decide) rfl ?_
  refine z_iconst d_Lir_sorts_24 0 (by decide) 25 rfl ?_
  refine z_istore d_Lir_sorts_25 27 rfl (by decide) rfl ?_
  refine z_Lw ([some (.ref 0), some (.int 1), some (.int (srC (cp (lf C g (sc 3) s) nt n) n 0).1), some (.int (srC (cp (lf C g (sc 3) s) nt n) n 0).2), some (.int (nI 0))]) (by simp [zLw, List.set, zargs, nI_0, srC]; try rfl) ?_
  refine zloop (fun i => Z X m_Lir_sorts 6 0 0 (some (.int ((srC (cp (lf C g (sc 3) s) nt n) n n).2))) (wld (tk, tp, bt, (T, C, rc, PF, PS, g, pp, bn, sc), b, crf, cp (lf C g (sc 3) s) nt n) u tl) 27 [some (.ref 0), some (.int 1), some (.int (srC (cp (lf C g (sc 3) s) nt n) n i).1), some (.int (srC (cp (lf C g (sc 3) s) nt n) n i).2), some (.int (nI i))] [] (wld (tk, tp, bt, (T, C, rc, PF, PS, g, pp, bn, sc), b, crf, cp (lf C g (sc 3) s) nt n) u tl)) (n) ?_ ?_ 0 (Nat.zero_le _)
  · refine z_iload d_Lir_sorts_27 rfl 29 rfl ?_
    refine z_aload_n d_Lir_sorts_29 rfl 30 rfl ?_
    refine z_get d_Lir_sorts_30 33 rfl fl_Lir_19_10 wc_0 rfl ?_
    refine z_get d_Lir_sorts_33 36 rfl fl_Lir_53_6 wc_3 rfl ?_
    refine z_icmp_ge d_Lir_sorts_36 70 39 (by decide) rfl (fun h3 => ?_) (fun hzz => absurd (by rw [hn]; exact Int32.le_refl _) hzz)
    refine z_iload_n d_Lir_sorts_70 rfl 71 rfl ?_
    refine z_if_ne d_Lir_sorts_71 78 74 (by decide) rfl (fun h4 => ?_) (fun hzz => absurd hzz (by decide))
    refine z_iload_n d_Lir_sorts_78 rfl 79 rfl ?_
    exact z_ireturn d_Lir_sorts_79 (rfl) (rfl)
  · intro i hi ih
    refine z_iload d_Lir_sorts_27 rfl 29 rfl ?_
    refine z_aload_n d_Lir_sorts_29 rfl 30 rfl ?_
    refine z_get d_Lir_sorts_30 33 rfl fl_Lir_19_10 wc_0 rfl ?_
    refine z_get d_Lir_sorts_33 36 rfl fl_Lir_53_6 wc_3 rfl ?_
    refine z_icmp_ge d_Lir_sorts_36 70 39 (by decide) rfl (fun hzz => absurd hzz (by rw [hn]; exact nI_ge hi (by omega))) (fun h5 => ?_)
    refine z_aload_n d_Lir_sorts_39 rfl 40 rfl ?_
    refine z_iload d_Lir_sorts_40 rfl 42 rfl ?_
    refine z_invv d_Lir_sorts_42 45 rfl hm_Lir_firstNotedLike lk_Lir_174 im_Lir_firstNotedLike sl_Lir_Lir_firstNotedLike rfl wc_0 (r_Lir_firstNotedLike i n (by omega) hi) rfl rfl (by decide) rfl rfl (Nat.le_of_ble_eq_true rfl) ?_
    refine z_iload d_Lir_sorts_45 rfl 47 rfl ?_
    refine z_icmp_ne d_Lir_sorts_47 64 50 (by decide) rfl (fun h6 => ?_) (fun h6 => ?_)
    · have e2 : srC (cp (lf C g (sc 3) s) nt n) n (i + 1) = srC (cp (lf C g (sc 3) s) nt n) n i := by simp only [srC]; rw [if_neg h6]
      refine z_iinc d_Lir_sorts_64 1 (by decide) 67 rfl rfl (by decide) rfl ?_
      refine z_goto d_Lir_sorts_67 27 (by decide) ?_
      exact z_Lg _ ih (by rw [e2]; simp [zLw, List.set, nI_succ])
    · have e2 : srC (cp (lf C g (sc 3) s) nt n) n (i + 1) = ((srC (cp (lf C g (sc 3) s) nt n) n i).1 + 1, if (srC (cp (lf C g (sc 3) s) nt n) n i).2 < sm (fun e => if (cp (lf C g (sc 3) s) nt n) e = (cp (lf C g (sc 3) s) nt n) i then 1 else 0) n then sm (fun e => if (cp (lf C g (sc 3) s) nt n) e = (cp (lf C g (sc 3) s) nt n) i then 1 else 0) n else (srC (cp (lf C g (sc 3) s) nt n) n i).2) := by simp only [srC]; rw [if_pos h6]
      refine z_iinc d_Lir_sorts_50 1 (by decide) 53 rfl rfl (by decide) rfl ?_
      refine z_iload_n d_Lir_sorts_53 rfl 54 rfl ?_
      refine z_aload_n d_Lir_sorts_54 rfl 55 rfl ?_
      refine z_iload d_Lir_sorts_55 rfl 57 rfl ?_
      refine z_invv d_Lir_sorts_57 60 rfl hm_Lir_howManyNotedLike lk_Lir_177 im_Lir_howManyNotedLike sl_Lir_Lir_howManyNotedLike rfl wc_0 (r_Lir_howManyNotedLike hn hn30 i (by omega)) rfl rfl (by decide) rfl rfl (Nat.le_of_ble_eq_true rfl) ?_
      refine z_mmax d_Lir_sorts_60 63 rfl lk_Lir_180 st_Mat_max zi_Mat (hm_Mat_max).1 (by decide) (Nat.le_of_ble_eq_true rfl) ?_
      refine z_istore_n d_Lir_sorts_63 64 rfl (by decide) rfl ?_
      refine z_iinc d_Lir_sorts_64 1 (by decide) 67 rfl rfl (by decide) rfl ?_
      refine z_goto d_Lir_sorts_67 27 (by decide) ?_
      exact z_Lg _ ih (by rw [e2]; simp [zLw, List.set, nI_succ])
set_option maxHeartbeats 400000 in
theorem r_Lir_alike_1 {tk : Int32} {tp bt crf nt : Nat → Int32} {T PF PS : Nat → Option Nat} {C : Nat → Nat → Int32} {rc g pp bn sc : Nat → Int32} {b : zR} {u : zU} {tl : List zC} {s : Nat → Int32} {n : Nat} (hn : sc 0 = nI n) (hn30 : n ≤ 30) (hTT : TT tl T s n) (t : Int32) (h : inR t (sc 0) = false) : Ret 6 0 0 m_Lir_alike [.ref 0, .int t] (wld (tk, tp, bt, (T, C, rc, PF, PS, g, pp, bn, sc), b, crf, nt) u tl) (some (.int (-1))) (wld (tk, tp, bt, (T, C, rc, PF, PS, g, pp, bn, sc), b, rfu crf 1, nt) u tl) := by
  refine Ret.of (n := 0) (by decide) (rfl) rfl (fun X => ?_)
  refine z_aload_n d_Lir_alike_0 rfl 1 rfl ?_
  refine z_get d_Lir_alike_1 4 rfl fl_Lir_19_10 wc_0 rfl ?_
  refine z_iload_n d_Lir_alike_4 rfl 5 rfl ?_
  refine z_invv d_Lir_alike_5 8 rfl hm_Roo_tellingAt lk_Lir_74 im_Roo_tellingAt sl_Roo_Roo_tellingAt rfl wc_3 (r_Roo_tellingAt_n t h) rfl rfl (by decide) rfl rfl (Nat.le_of_ble_eq_true rfl) ?_
  refine z_ifnonnullN d_Lir_alike_8 11 rfl ?_
  refine z_aload_n d_Lir_alike_11 rfl 12 rfl ?_
  refine z_iconst d_Lir_alike_12 (-1) (by decide) 13 rfl ?_
  refine z_invv d_Lir_alike_13 16 rfl hm_Lir_refuse lk_Lir_37 im_Lir_refuse sl_Lir_Lir_refuse rfl wc_0 (r_Lir_refuse (-1) 1 (by decide) (by decide)) rfl rfl (by decide) rfl rfl (Nat.le_of_ble_eq_true rfl) ?_
  exact z_ireturn d_Lir_alike_16 (rfl) (rfl)
set_option maxHeartbeats 400000 in
theorem r_Lir_alike_0 {tk : Int32} {tp bt crf nt : Nat → Int32} {T PF PS : Nat → Option Nat} {C : Nat → Nat → Int32} {rc g pp bn sc : Nat → Int32} {b : zR} {u : zU} {tl : List zC} {s : Nat → Int32} {n : Nat} (hn : sc 0 = nI n) (hn30 : n ≤ 30) (hTT : TT tl T s n) (a : Nat) (ha : a < n) : Ret 6 0 0 m_Lir_alike [.ref 0, .int (nI a)] (wld (tk, tp, bt, (T, C, rc, PF, PS, g, pp, bn, sc), b, crf, nt) u tl) (some (.int (fnd n (fun e => decide ((cp (lf C g (sc 3) s) nt n) e = (cp (lf C g (sc 3) s) nt n) a))))) (wld (tk, tp, bt, (T, C, rc, PF, PS, g, pp, bn, sc), b, crf, cp (lf C g (sc 3) s) nt n) u tl) := by
  obtain ⟨ja, hTa, hja⟩ := hTT.1 a ha
  refine Ret.of (n := 0) (by decide) (rfl) rfl (fun X => ?_)
  refine z_aload_n d_Lir_alike_0 rfl 1 rfl ?_
  refine z_get d_Lir_alike_1 4 rfl fl_Lir_19_10 wc_0 rfl ?_
  refine z_iload_n d_Lir_alike_4 rfl 5 rfl ?_
  refine z_invv d_Lir_alike_5 8 rfl hm_Roo_tellingAt lk_Lir_74 im_Roo_tellingAt sl_Roo_Roo_tellingAt rfl wc_3 (r_Roo_tellingAt_s hn hn30 a _ ha hTa) rfl rfl (by decide) rfl rfl (Nat.le_of_ble_eq_true rfl) ?_
  refine z_ifnonnull d_Lir_alike_8 17 (by decide) ?_
  refine z_aload_n d_Lir_alike_17 rfl 18 rfl ?_
  refine z_invvv d_Lir_alike_18 21 rfl hm_Lir_noteLaws lk_Lir_156 im_Lir_noteLaws sl_Lir_Lir_noteLaws rfl wc_0 (r_Lir_noteLaws hn hn30 hTT) rfl rfl (by decide) rfl rfl (Nat.le_of_ble_eq_true rfl) ?_
  refine z_aload_n d_Lir_alike_21 rfl 22 rfl ?_
  refine z_iload_n d_Lir_alike_22 rfl 23 rfl ?_
  refine z_invv d_Lir_alike_23 26 rfl hm_Lir_firstNotedLike lk_Lir_174 im_Lir_firstNotedLike sl_Lir_Lir_firstNotedLike rfl wc_0 (r_Lir_firstNotedLike a n (by omega) ha) rfl rfl (by decide) rfl rfl (Nat.le_of_ble_eq_true rfl) ?_
  exact z_ireturn d_Lir_alike_26 (rfl) (rfl)
