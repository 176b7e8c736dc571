/-- the row of Tellings holds the first n, and null behind them -/
def TT (tl : List zC) (T : Nat → Option Nat) (s : Nat → Int32) (n : Nat) : Prop := (∀ i, i < n → ∃ j, T i = some (51 + j) ∧ tl[j]? = some (tcell (fun k => s (6 + 6 * i + k)))) ∧ ∀ i, n ≤ i → i < 30 → T i = none
def bk (C : Nat → Nat → Int32) (g : Nat → Int32) (rt : Int32) (s : Nat → Int32) (i l : Nat) : Int32 := lb0 (C l) (fun k => s (6 + 6 * i + k)) (hdC rt (s (6 + 6 * i + 0)) (g 0) (s (6 + 6 * i + 4))) (hdC rt (s (6 + 6 * i + 1)) (g 1) (s (6 + 6 * i + 4)))
def lf (C : Nat → Nat → Int32) (g : Nat → Int32) (rt : Int32) (s : Nat → Int32) (i : Nat) : Int32 := lfC C (fun k => s (6 + 6 * i + k)) (hdC rt (s (6 + 6 * i + 0)) (g 0) (s (6 + 6 * i + 4))) (hdC rt (s (6 + 6 * i + 1)) (g 1) (s (6 + 6 * i + 4))) 6
theorem smm_lt {f : Nat → Int32} {i n : Nat} (h : i < n) : sm f (min (i + 1) n) = sm f (min i n) + f i := by
  rw [show min (i + 1) n = i + 1 by omega, show min i n = i by omega]; rfl
theorem smm_ge {f : Nat → Int32} {i n : Nat} (h : n ≤ i) : sm f (min (i + 1) n) = sm f (min i n) := by
  rw [show min (i + 1) n = n by omega, show min i n = n by omega]
theorem smm_30 {f : Nat → Int32} {n : Nat} (h : n ≤ 30) : sm f (min 30 n) = sm f n := by rw [show min 30 n = n by omega]
theorem smm_0 {f : Nat → Int32} {n : Nat} : sm f (min 0 n) = 0 := by rw [Nat.zero_min]; rfl
set_option maxHeartbeats 400000 in
theorem r_Roo_howManyFit {tk : Int32} {tp bt crf nt : Nat → Int32} {T PF PS : Nat → Option Nat} {C : Nat → Nat → Int32} {rc g pp bn sc : Nat → Int32} {b : zR} {u : zU} {tl : List zC} {s : Nat → Int32} {n : Nat} (hn : sc 0 = nI n) (hn30 : n ≤ 30) (hTT : TT tl T s n) (l : Nat) (hl : l < 6) : Ret 5 0 0 m_Roo_howManyFit [.ref 3, .ref (6 + 2 * l)] (wld (tk, tp, bt, (T, C, rc, PF, PS, g, pp, bn, sc), b, crf, nt) u tl) (some (.int (sm (fun i => if bk C g (sc 3) s i l = 0 then 1 else 0) n))) (wld (tk, tp, bt, (T, C, rc, PF, PS, g, pp, bn, sc), b, crf, nt) u tl) := by
  refine Ret.of (n := 5) (by decide) (rfl) rfl (fun X => ?_)
  refine z_iconst d_Roo_howManyFit_0 0 (by decide) 1 rfl ?_
  refine z_istore_n d_Roo_howManyFit_1 2 rfl (by decide) rfl ?_
  refine z_aload_n d_Roo_howManyFit_2 rfl 3 rfl ?_
  refine z_get d_Roo_howManyFit_3 6 rfl fl_Roo_11_6 wc_3 rfl ?_
  refine z_astore_n d_Roo_howManyFit_6 7 rfl (by decide) rfl ?_
  refine z_aload_n d_Roo_howManyFit_7 rfl 8 rfl ?_
  refine z_alenR d_Roo_howManyFit_8 9 rfl wc_4 (by decide) 30 (by decide) ?_
  refine z_istore d_Roo_howManyFit_9 11 rfl (by decide) rfl ?_
  refine z_iconst d_Roo_howManyFit_11 0 (by decide) 12 rfl ?_
  refine z_istore d_Roo_howManyFit_12 14 rfl (by decide) rfl ?_
  refine z_Lw ([some (.ref 3), some (.ref (6 + 2 * l)), some (.int (sm (fun i => if bk C g (sc 3) s i l = 0 then 1 else 0) (min 0 n))), some (.ref 4), some (.int 30), some (.int (nI 0)), none]) (by simp only [smm_0]; simp [zLw, List.set, zargs, nI_0]) ?_
  refine zloop (fun i => Z X m_Roo_howManyFit 5 0 0 (some (.int (sm (fun i => if bk C g (sc 3) s i l = 0 then 1 else 0) n))) (wld (tk, tp, bt, (T, C, rc, PF, PS, g, pp, bn, sc), b, crf, nt) u tl) 14 [some (.ref 3), some (.ref (6 + 2 * l)), some (.int (sm (fun i => if bk C g (sc 3) s i l = 0 then 1 else 0) (min i n))), some (.ref 4), some (.int 30), some (.int (nI i)), none] [] (wld (tk, tp, bt, (T, C, rc, PF, PS, g, pp, bn, sc), b, crf, nt) u tl)) (30) ?_ ?_ 0 (Nat.zero_le _)
  · refine z_iload d_Roo_howManyFit_14 rfl 16 rfl ?_
    refine z_iload d_Roo_howManyFit_16 rfl 18 rfl ?_
    refine z_icmp_ge d_Roo_howManyFit_18 56 21 (by decide) rfl (fun h1 => ?_) (fun hzz => absurd (by decide) hzz)
    refine z_iload_n d_Roo_howManyFit_56 rfl 57 rfl ?_
    exact z_ireturn d_Roo_howManyFit_57 (by rw [smm_30 hn30]) (rfl)
  · intro i hi ih
    refine z_iload d_Roo_howManyFit_14 rfl 16 rfl ?_
    refine z_iload d_Roo_howManyFit_16 rfl 18 rfl ?_
    refine z_icmp_ge d_Roo_howManyFit_18 56 21 (by decide) rfl (fun hzz => absurd hzz (show ¬ nI 30 ≤ nI i from nI_ge hi (by decide))) (fun h2 => ?_)
    refine z_aload_n d_Roo_howManyFit_21 rfl 22 rfl ?_
    refine z_iload d_Roo_howManyFit_22 rfl 24 rfl ?_
    rcases Nat.lt_or_ge i n with hin | hin
    · obtain ⟨j, hTi, hj⟩ := hTT.1 i hin
      have hP : (wld (tk, tp, bt, (T, C, rc, PF, PS, g, pp, bn, sc), b, crf, nt) u tl)[51 + j]? = some (tcell (fun k => s (6 + 6 * i + k))) := (wl_tl j).trans hj
      refine z_aaload d_Roo_howManyFit_24 (i) 25 rfl wc_4 (Or.inr rfl) rfl (by omega) (by decide) (by rw [hTi]) ?_
      refine z_astore d_Roo_howManyFit_25 27 rfl (by decide) rfl ?_
      refine z_iload_n d_Roo_howManyFit_27 rfl 28 rfl ?_
      refine z_aload d_Roo_howManyFit_28 rfl 30 rfl ?_
      refine z_ifnull d_Roo_howManyFit_30 33 rfl ?_
      refine z_aload_n d_Roo_howManyFit_33 rfl 34 rfl ?_
      refine z_aload d_Roo_howManyFit_34 rfl 36 rfl ?_
      refine z_aload_n d_Roo_howManyFit_36 rfl 37 rfl ?_
      refine z_invv d_Roo_howManyFit_37 40 rfl hm_Roo_brokenBy lk_Roo_116 im_Roo_brokenBy sl_Roo_Roo_brokenBy rfl wc_3 (r_Roo_brokenBy _ _ hP _ hl) rfl rfl (by decide) rfl rfl (Nat.le_of_ble_eq_true rfl) ?_
      refine z_if_ne d_Roo_howManyFit_40 47 43 (by decide) rfl (fun h3 => ?_) (fun h3 => ?_)
      · have e1 : ¬ bk C g (sc 3) s i l = 0 := h3
        refine z_iconst d_Roo_howManyFit_47 0 (by decide) 48 rfl ?_
        refine z_iadd d_Roo_howManyFit_48 49 rfl ?_
        refine z_istore_n d_Roo_howManyFit_49 50 rfl (by decide) rfl ?_
        refine z_iinc d_Roo_howManyFit_50 1 (by decide) 53 rfl rfl (by decide) rfl ?_
        refine z_goto d_Roo_howManyFit_53 14 (by decide) ?_
        exact z_Lg _ ih (by simp only [smm_lt hin]; first | (simp [zLw, List.set, nI_succ, e1]; done) | (simp [zLw, List.set, nI_succ, *]; done))
      · have e1 : bk C g (sc 3) s i l = 0 := h3
        refine z_iconst d_Roo_howManyFit_43 1 (by decide) 44 rfl ?_
        refine z_goto d_Roo_howManyFit_44 48 (by decide) ?_
        refine z_iadd d_Roo_howManyFit_48 49 rfl ?_
        refine z_istore_n d_Roo_howManyFit_49 50 rfl (by decide) rfl ?_
        refine z_iinc d_Roo_howManyFit_50 1 (by decide) 53 rfl rfl (by decide) rfl ?_
        refine z_goto d_Roo_howManyFit_53 14 (by decide) ?_
        exact z_Lg _ ih (by simp only [smm_lt hin]; first | (simp [zLw, List.set, nI_succ, e1]; done) | (simp [zLw, List.set, nI_succ, *]; done))
    · refine z_aaload d_Roo_howManyFit_24 (i) 25 rfl wc_4 (Or.inr rfl) rfl (by omega) (by decide) (by rw [hTT.2 i hin (by omega)]) ?_
      refine z_astoreN d_Roo_howManyFit_25 27 rfl (by decide) rfl ?_
      refine z_iload_n d_Roo_howManyFit_27 rfl 28 rfl ?_
      refine z_aloadN d_Roo_howManyFit_28 rfl 30 rfl ?_
      refine z_ifnullN d_Roo_howManyFit_30 47 (by decide) ?_
      refine z_iconst d_Roo_howManyFit_47 0 (by decide) 48 rfl ?_
      refine z_iadd d_Roo_howManyFit_48 49 rfl ?_
      refine z_istore_n d_Roo_howManyFit_49 50 rfl (by decide) rfl ?_
      refine z_iinc d_Roo_howManyFit_50 1 (by decide) 53 rfl rfl (by decide) rfl ?_
      refine z_goto d_Roo_howManyFit_53 14 (by decide) ?_
      exact z_Lg _ ih (by simp only [smm_ge hin]; simp [zLw, List.set, nI_succ])
set_option maxHeartbeats 400000 in
theorem r_Roo_howManyAskedFit {tk : Int32} {tp bt crf nt : Nat → Int32} {T PF PS : Nat → Option Nat} {C : Nat → Nat → Int32} {rc g pp bn sc : Nat → Int32} {b : zR} {u : zU} {tl : List zC} {s : Nat → Int32} {n : Nat} (hn : sc 0 = nI n) (hn30 : n ≤ 30) (hTT : TT tl T s n) (l : Nat) (hl : l < 6) : Ret 5 0 0 m_Roo_howManyAskedFit [.ref 3, .ref (6 + 2 * l)] (wld (tk, tp, bt, (T, C, rc, PF, PS, g, pp, bn, sc), b, crf, nt) u tl) (some (.int (sm (fun i => if s (6 + 6 * i + 5) = 0 then 0 else (if bk C g (sc 3) s i l = 0 then 1 else 0)) n))) (wld (tk, tp, bt, (T, C, rc, PF, PS, g, pp, bn, sc), b, crf, nt) u tl) := by
  refine Ret.of (n := 5) (by decide) (rfl) rfl (fun X => ?_)
  refine z_iconst d_Roo_howManyAskedFit_0 0 (by decide) 1 rfl ?_
  refine z_istore_n d_Roo_howManyAskedFit_1 2 rfl (by decide) rfl ?_
  refine z_aload_n d_Roo_howManyAskedFit_2 rfl 3 rfl ?_
  refine z_get d_Roo_howManyAskedFit_3 6 rfl fl_Roo_11_6 wc_3 rfl ?_
  refine z_astore_n d_Roo_howManyAskedFit_6 7 rfl (by decide) rfl ?_
  refine z_aload_n d_Roo_howManyAskedFit_7 rfl 8 rfl ?_
  refine z_alenR d_Roo_howManyAskedFit_8 9 rfl wc_4 (by decide) 30 (by decide) ?_
  refine z_istore d_Roo_howManyAskedFit_9 11 rfl (by decide) rfl ?_
  refine z_iconst d_Roo_howManyAskedFit_11 0 (by decide) 12 rfl ?_
  refine z_istore d_Roo_howManyAskedFit_12 14 rfl (by decide) rfl ?_
  refine z_Lw ([some (.ref 3), some (.ref (6 + 2 * l)), some (.int (sm (fun i => if s (6 + 6 * i + 5) = 0 then 0 else (if bk C g (sc 3) s i l = 0 then 1 else 0)) (min 0 n))), some (.ref 4), some (.int 30), some (.int (nI 0)), none]) (by simp only [smm_0]; simp [zLw, List.set, zargs, nI_0]) ?_
  refine zloop (fun i => Z X m_Roo_howManyAskedFit 5 0 0 (some (.int (sm (fun i => if s (6 + 6 * i + 5) = 0 then 0 else (if bk C g (sc 3) s i l = 0 then 1 else 0)) n))) (wld (tk, tp, bt, (T, C, rc, PF, PS, g, pp, bn, sc), b, crf, nt) u tl) 14 [some (.ref 3), some (.ref (6 + 2 * l)), some (.int (sm (fun i => if s (6 + 6 * i + 5) = 0 then 0 else (if bk C g (sc 3) s i l = 0 then 1 else 0)) (min i n))), some (.ref 4), some (.int 30), some (.int (nI i)), none] [] (wld (tk, tp, bt, (T, C, rc, PF, PS, g, pp, bn, sc), b, crf, nt) u tl)) (30) ?_ ?_ 0 (Nat.zero_le _)
  · refine z_iload d_Roo_howManyAskedFit_14 rfl 16 rfl ?_
    refine z_iload d_Roo_howManyAskedFit_16 rfl 18 rfl ?_
    refine z_icmp_ge d_Roo_howManyAskedFit_18 64 21 (by decide) rfl (fun h1 => ?_) (fun hzz => absurd (by decide) hzz)
    refine z_iload_n d_Roo_howManyAskedFit_64 rfl 65 rfl ?_
    exact z_ireturn d_Roo_howManyAskedFit_65 (by rw [smm_30 hn30]) (rfl)
  · intro i hi ih
    refine z_iload d_Roo_howManyAskedFit_14 rfl 16 rfl ?_
    refine z_iload d_Roo_howManyAskedFit_16 rfl 18 rfl ?_
    refine z_icmp_ge d_Roo_howManyAskedFit_18 64 21 (by decide) rfl (fun hzz => absurd hzz (show ¬ nI 30 ≤ nI i from nI_ge hi (by decide))) (fun h2 => ?_)
    refine z_aload_n d_Roo_howManyAskedFit_21 rfl 22 rfl ?_
    refine z_iload d_Roo_howManyAskedFit_22 rfl 24 rfl ?_
    rcases Nat.lt_or_ge i n with hin | hin
    · obtain ⟨j, hTi, hj⟩ := hTT.1 i hin
      have hP : (wld (tk, tp, bt, (T, C, rc, PF, PS, g, pp, bn, sc), b, crf, nt) u tl)[51 + j]? = some (tcell (fun k => s (6 + 6 * i + k))) := (wl_tl j).trans hj
      refine z_aaload d_Roo_howManyAskedFit_24 (i) 25 rfl wc_4 (Or.inr rfl) rfl (by omega) (by decide) (by rw [hTi]) ?_
      refine z_astore d_Roo_howManyAskedFit_25 27 rfl (by decide) rfl ?_
      refine z_iload_n d_Roo_howManyAskedFit_27 rfl 28 rfl ?_
      refine z_aload d_Roo_howManyAskedFit_28 rfl 30 rfl ?_
      refine z_ifnull d_Roo_howManyAskedFit_30 33 rfl ?_
      refine z_aload d_Roo_howManyAskedFit_33 rfl 35 rfl ?_
      refine z_get d_Roo_howManyAskedFit_35 38 rfl (flT_Roo_119 (kci_mem _)) hP rfl ?_
      refine z_if_eq d_Roo_howManyAskedFit_38 55 41 (by decide) rfl (fun h3 => ?_) (fun h3 => ?_)
      · have e0 : s (6 + 6 * i + 5) = 0 := h3
        refine z_iconst d_Roo_howManyAskedFit_55 0 (by decide) 56 rfl ?_
        refine z_iadd d_Roo_howManyAskedFit_56 57 rfl ?_
        refine z_istore_n d_Roo_howManyAskedFit_57 58 rfl (by decide) rfl ?_
        refine z_iinc d_Roo_howManyAskedFit_58 1 (by decide) 61 rfl rfl (by decide) rfl ?_
        refine z_goto d_Roo_howManyAskedFit_61 14 (by decide) ?_
        exact z_Lg _ ih (by simp only [smm_lt hin]; first | (simp [zLw, List.set, nI_succ, e0, e1]; done) | (simp [zLw, List.set, nI_succ, *]; done))
      · have e0 : ¬ s (6 + 6 * i + 5) = 0 := h3
        refine z_aload_n d_Roo_howManyAskedFit_41 rfl 42 rfl ?_
        refine z_aload d_Roo_howManyAskedFit_42 rfl 44 rfl ?_
        refine z_aload_n d_Roo_howManyAskedFit_44 rfl 45 rfl ?_
        refine z_invv d_Roo_howManyAskedFit_45 48 rfl hm_Roo_brokenBy lk_Roo_116 im_Roo_brokenBy sl_Roo_Roo_brokenBy rfl wc_3 (r_Roo_brokenBy _ _ hP _ hl) rfl rfl (by decide) rfl rfl (Nat.le_of_ble_eq_true rfl) ?_
        refine z_if_ne d_Roo_howManyAskedFit_48 55 51 (by decide) rfl (fun h4 => ?_) (fun h4 => ?_)
        · have e1 : ¬ bk C g (sc 3) s i l = 0 := h4
          refine z_iconst d_Roo_howManyAskedFit_55 0 (by decide) 56 rfl ?_
          refine z_iadd d_Roo_howManyAskedFit_56 57 rfl ?_
          refine z_istore_n d_Roo_howManyAskedFit_57 58 rfl (by decide) rfl ?_
          refine z_iinc d_Roo_howManyAskedFit_58 1 (by decide) 61 rfl rfl (by decide) rfl ?_
          refine z_goto d_Roo_howManyAskedFit_61 14 (by decide) ?_
          exact z_Lg _ ih (by simp only [smm_lt hin]; first | (simp [zLw, List.set, nI_succ, e0, e1]; done) | (simp [zLw, List.set, nI_succ, *]; done))
        · have e1 : bk C g (sc 3) s i l = 0 := h4
          refine z_iconst d_Roo_howManyAskedFit_51 1 (by decide) 52 rfl ?_
          refine z_goto d_Roo_howManyAskedFit_52 56 (by decide) ?_
          refine z_iadd d_Roo_howManyAskedFit_56 57 rfl ?_
          refine z_istore_n d_Roo_howManyAskedFit_57 58 rfl (by decide) rfl ?_
          refine z_iinc d_Roo_howManyAskedFit_58 1 (by decide) 61 rfl rfl (by decide) rfl ?_
          refine z_goto d_Roo_howManyAskedFit_61 14 (by decide) ?_
          exact z_Lg _ ih (by simp only [smm_lt hin]; first | (simp [zLw, List.set, nI_succ, e0, e1]; done) | (simp [zLw, List.set, nI_succ, *]; done))
    · refine z_aaload d_Roo_howManyAskedFit_24 (i) 25 rfl wc_4 (Or.inr rfl) rfl (by omega) (by decide) (by rw [hTT.2 i hin (by omega)]) ?_
      refine z_astoreN d_Roo_howManyAskedFit_25 27 rfl (by decide) rfl ?_
      refine z_iload_n d_Roo_howManyAskedFit_27 rfl 28 rfl ?_
      refine z_aloadN d_Roo_howManyAskedFit_28 rfl 30 rfl ?_
      refine z_ifnullN d_Roo_howManyAskedFit_30 55 (by decide) ?_
      refine z_iconst d_Roo_howManyAskedFit_55 0 (by decide) 56 rfl ?_
      refine z_iadd d_Roo_howManyAskedFit_56 57 rfl ?_
      refine z_istore_n d_Roo_howManyAskedFit_57 58 rfl (by decide) rfl ?_
      refine z_iinc d_Roo_howManyAskedFit_58 1 (by decide) 61 rfl rfl (by decide) rfl ?_
      refine z_goto d_Roo_howManyAskedFit_61 14 (by decide) ?_
      exact z_Lg _ ih (by simp only [smm_ge hin]; simp [zLw, List.set, nI_succ])
set_option maxHeartbeats 400000 in
theorem r_Roo_howManyAsked {tk : Int32} {tp bt crf nt : Nat → Int32} {T PF PS : Nat → Option Nat} {C : Nat → Nat → Int32} {rc g pp bn sc : Nat → Int32} {b : zR} {u : zU} {tl : List zC} {s : Nat → Int32} {n : Nat} (hn : sc 0 = nI n) (hn30 : n ≤ 30) (hTT : TT tl T s n)  : Ret 1 0 0 m_Roo_howManyAsked [.ref 3] (wld (tk, tp, bt, (T, C, rc, PF, PS, g, pp, bn, sc), b, crf, nt) u tl) (some (.int (sm (fun i => if s (6 + 6 * i + 5) = 0 then 0 else 1) n))) (wld (tk, tp, bt, (T, C, rc, PF, PS, g, pp, bn, sc), b, crf, nt) u tl) := by
  refine Ret.of (n := 5) (by decide) (rfl) rfl (fun X => ?_)
  refine z_iconst d_Roo_howManyAsked_0 0 (by decide) 1 rfl ?_
  refine z_istore_n d_Roo_howManyAsked_1 2 rfl (by decide) rfl ?_
  refine z_aload_n d_Roo_howManyAsked_2 rfl 3 rfl ?_
  refine z_get d_Roo_howManyAsked_3 6 rfl fl_Roo_11_6 wc_3 rfl ?_
  refine z_astore_n d_Roo_howManyAsked_6 7 rfl (by decide) rfl ?_
  refine z_aload_n d_Roo_howManyAsked_7 rfl 8 rfl ?_
  refine z_alenR d_Roo_howManyAsked_8 9 rfl wc_4 (by decide) 30 (by decide) ?_
  refine z_istore_n d_Roo_howManyAsked_9 10 rfl (by decide) rfl ?_
  refine z_iconst d_Roo_howManyAsked_10 0 (by decide) 11 rfl ?_
  refine z_istore d_Roo_howManyAsked_11 13 rfl (by decide) rfl ?_
  refine z_Lw ([some (.ref 3), some (.int (sm (fun i => if s (6 + 6 * i + 5) = 0 then 0 else 1) (min 0 n))), some (.ref 4), some (.int 30), some (.int (nI 0)), none]) (by simp only [smm_0]; simp [zLw, List.set, zargs, nI_0]) ?_
  refine zloop (fun i => Z X m_Roo_howManyAsked 1 0 0 (some (.int (sm (fun i => if s (6 + 6 * i + 5) = 0 then 0 else 1) n))) (wld (tk, tp, bt, (T, C, rc, PF, PS, g, pp, bn, sc), b, crf, nt) u tl) 13 [some (.ref 3), some (.int (sm (fun i => if s (6 + 6 * i + 5) = 0 then 0 else 1) (min i n))), some (.ref 4), some (.int 30), some (.int (nI i)), none] [] (wld (tk, tp, bt, (T, C, rc, PF, PS, g, pp, bn, sc), b, crf, nt) u tl)) (30) ?_ ?_ 0 (Nat.zero_le _)
  · refine z_iload d_Roo_howManyAsked_13 rfl 15 rfl ?_
    refine z_iload_n d_Roo_howManyAsked_15 rfl 16 rfl ?_
    refine z_icmp_ge d_Roo_howManyAsked_16 52 19 (by decide) rfl (fun h1 => ?_) (fun hzz => absurd (by decide) hzz)
    refine z_iload_n d_Roo_howManyAsked_52 rfl 53 rfl ?_
    exact z_ireturn d_Roo_howManyAsked_53 (by rw [smm_30 hn30]) (rfl)
  · intro i hi ih
    refine z_iload d_Roo_howManyAsked_13 rfl 15 rfl ?_
    refine z_iload_n d_Roo_howManyAsked_15 rfl 16 rfl ?_
    refine z_icmp_ge d_Roo_howManyAsked_16 52 19 (by decide) rfl (fun hzz => absurd hzz (show ¬ nI 30 ≤ nI i from nI_ge hi (by decide))) (fun h2 => ?_)
    refine z_aload_n d_Roo_howManyAsked_19 rfl 20 rfl ?_
    refine z_iload d_Roo_howManyAsked_20 rfl 22 rfl ?_
    rcases Nat.lt_or_ge i n with hin | hin
    · obtain ⟨j, hTi, hj⟩ := hTT.1 i hin
      have hP : (wld (tk, tp, bt, (T, C, rc, PF, PS, g, pp, bn, sc), b, crf, nt) u tl)[51 + j]? = some (tcell (fun k => s (6 + 6 * i + k))) := (wl_tl j).trans hj
      refine z_aaload d_Roo_howManyAsked_22 (i) 23 rfl wc_4 (Or.inr rfl) rfl (by omega) (by decide) (by rw [hTi]) ?_
      refine z_astore d_Roo_howManyAsked_23 25 rfl (by decide) rfl ?_
      refine z_iload_n d_Roo_howManyAsked_25 rfl 26 rfl ?_
      refine z_aload d_Roo_howManyAsked_26 rfl 28 rfl ?_
      refine z_ifnull d_Roo_howManyAsked_28 31 rfl ?_
      refine z_aload d_Roo_howManyAsked_31 rfl 33 rfl ?_
      refine z_get d_Roo_howManyAsked_33 36 rfl (flT_Roo_119 (kci_mem _)) hP rfl ?_
      refine z_if_eq d_Roo_howManyAsked_36 43 39 (by decide) rfl (fun h3 => ?_) (fun h3 => ?_)
      · have e0 : s (6 + 6 * i + 5) = 0 := h3
        refine z_iconst d_Roo_howManyAsked_43 0 (by decide) 44 rfl ?_
        refine z_iadd d_Roo_howManyAsked_44 45 rfl ?_
        refine z_istore_n d_Roo_howManyAsked_45 46 rfl (by decide) rfl ?_
        refine z_iinc d_Roo_howManyAsked_46 1 (by decide) 49 rfl rfl (by decide) rfl ?_
        refine z_goto d_Roo_howManyAsked_49 13 (by decide) ?_
        exact z_Lg _ ih (by simp only [smm_lt hin]; first | (simp [zLw, List.set, nI_succ, e0]; done) | (simp [zLw, List.set, nI_succ, *]; done))
      · have e0 : ¬ s (6 + 6 * i + 5) = 0 := h3
        refine z_iconst d_Roo_howManyAsked_39 1 (by decide) 40 rfl ?_
        refine z_goto d_Roo_howManyAsked_40 44 (by decide) ?_
        refine z_iadd d_Roo_howManyAsked_44 45 rfl ?_
        refine z_istore_n d_Roo_howManyAsked_45 46 rfl (by decide) rfl ?_
        refine z_iinc d_Roo_howManyAsked_46 1 (by decide) 49 rfl rfl (by decide) rfl ?_
        refine z_goto d_Roo_howManyAsked_49 13 (by decide) ?_
        exact z_Lg _ ih (by simp only [smm_lt hin]; first | (simp [zLw, List.set, nI_succ, e0]; done) | (simp [zLw, List.set, nI_succ, *]; done))
    · refine z_aaload d_Roo_howManyAsked_22 (i) 23 rfl wc_4 (Or.inr rfl) rfl (by omega) (by decide) (by rw [hTT.2 i hin (by omega)]) ?_
      refine z_astoreN d_Roo_howManyAsked_23 25 rfl (by decide) rfl ?_
      refine z_iload_n d_Roo_howManyAsked_25 rfl 26 rfl ?_
      refine z_aloadN d_Roo_howManyAsked_26 rfl 28 rfl ?_
      refine z_ifnullN d_Roo_howManyAsked_28 43 (by decide) ?_
      refine z_iconst d_Roo_howManyAsked_43 0 (by decide) 44 rfl ?_
      refine z_iadd d_Roo_howManyAsked_44 45 rfl ?_
      refine z_istore_n d_Roo_howManyAsked_45 46 rfl (by decide) rfl ?_
      refine z_iinc d_Roo_howManyAsked_46 1 (by decide) 49 rfl rfl (by decide) rfl ?_
      refine z_goto d_Roo_howManyAsked_49 13 (by decide) ?_
      exact z_Lg _ ih (by simp only [smm_ge hin]; simp [zLw, List.set, nI_succ])
set_option maxHeartbeats 400000 in
theorem r_Roo_howManyGaps {tk : Int32} {tp bt crf nt : Nat → Int32} {T PF PS : Nat → Option Nat} {C : Nat → Nat → Int32} {rc g pp bn sc : Nat → Int32} {b : zR} {u : zU} {tl : List zC} {s : Nat → Int32} {n : Nat} (hn : sc 0 = nI n) (hn30 : n ≤ 30) (hTT : TT tl T s n)  : Ret 1 0 0 m_Roo_howManyGaps [.ref 3] (wld (tk, tp, bt, (T, C, rc, PF, PS, g, pp, bn, sc), b, crf, nt) u tl) (some (.int (sm (fun i => (if s (6 + 6 * i + 0) = -9 then 1 else 0) + (if s (6 + 6 * i + 1) = -9 then 1 else 0) + (if s (6 + 6 * i + 2) = -9 then 1 else 0)) n))) (wld (tk, tp, bt, (T, C, rc, PF, PS, g, pp, bn, sc), b, crf, nt) u tl) := by
  refine Ret.of (n := 5) (by decide) (rfl) rfl (fun X => ?_)
  refine z_iconst d_Roo_howManyGaps_0 0 (by decide) 1 rfl ?_
  refine z_istore_n d_Roo_howManyGaps_1 2 rfl (by decide) rfl ?_
  refine z_aload_n d_Roo_howManyGaps_2 rfl 3 rfl ?_
  refine z_get d_Roo_howManyGaps_3 6 rfl fl_Roo_11_6 wc_3 rfl ?_
  refine z_astore_n d_Roo_howManyGaps_6 7 rfl (by decide) rfl ?_
  refine z_aload_n d_Roo_howManyGaps_7 rfl 8 rfl ?_
  refine z_alenR d_Roo_howManyGaps_8 9 rfl wc_4 (by decide) 30 (by decide) ?_
  refine z_istore_n d_Roo_howManyGaps_9 10 rfl (by decide) rfl ?_
  refine z_iconst d_Roo_howManyGaps_10 0 (by decide) 11 rfl ?_
  refine z_istore d_Roo_howManyGaps_11 13 rfl (by decide) rfl ?_
  refine z_Lw ([some (.ref 3), some (.int (sm (fun i => (if s (6 + 6 * i + 0) = -9 then 1 else 0) + (if s (6 + 6 * i + 1) = -9 then 1 else 0) + (if s (6 + 6 * i + 2) = -9 then 1 else 0)) (min 0 n))), some (.ref 4), some (.int 30), some (.int (nI 0)), none]) (by simp only [smm_0]; simp [zLw, List.set, zargs, nI_0]) ?_
  refine zloop (fun i => Z X m_Roo_howManyGaps 1 0 0 (some (.int (sm (fun i => (if s (6 + 6 * i + 0) = -9 then 1 else 0) + (if s (6 + 6 * i + 1) = -9 then 1 else 0) + (if s (6 + 6 * i + 2) = -9 then 1 else 0)) n))) (wld (tk, tp, bt, (T, C, rc, PF, PS, g, pp, bn, sc), b, crf, nt) u tl) 13 [some (.ref 3), some (.int (sm (fun i => (if s (6 + 6 * i + 0) = -9 then 1 else 0) + (if s (6 + 6 * i + 1) = -9 then 1 else 0) + (if s (6 + 6 * i + 2) = -9 then 1 else 0)) (min i n))), some (.ref 4), some (.int 30), some (.int (nI i)), none] [] (wld (tk, tp, bt, (T, C, rc, PF, PS, g, pp, bn, sc), b, crf, nt) u tl)) (30) ?_ ?_ 0 (Nat.zero_le _)
  · refine z_iload d_Roo_howManyGaps_13 rfl 15 rfl ?_
    refine z_iload_n d_Roo_howManyGaps_15 rfl 16 rfl ?_
    refine z_icmp_ge d_Roo_howManyGaps_16 48 19 (by decide) rfl (fun h1 => ?_) (fun hzz => absurd (by decide) hzz)
    refine z_iload_n d_Roo_howManyGaps_48 rfl 49 rfl ?_
    exact z_ireturn d_Roo_howManyGaps_49 (by rw [smm_30 hn30]) (rfl)
  · intro i hi ih
    refine z_iload d_Roo_howManyGaps_13 rfl 15 rfl ?_
    refine z_iload_n d_Roo_howManyGaps_15 rfl 16 rfl ?_
    refine z_icmp_ge d_Roo_howManyGaps_16 48 19 (by decide) rfl (fun hzz => absurd hzz (show ¬ nI 30 ≤ nI i from nI_ge hi (by decide))) (fun h2 => ?_)
    refine z_aload_n d_Roo_howManyGaps_19 rfl 20 rfl ?_
    refine z_iload d_Roo_howManyGaps_20 rfl 22 rfl ?_
    rcases Nat.lt_or_ge i n with hin | hin
    · obtain ⟨j, hTi, hj⟩ := hTT.1 i hin
      have hP : (wld (tk, tp, bt, (T, C, rc, PF, PS, g, pp, bn, sc), b, crf, nt) u tl)[51 + j]? = some (tcell (fun k => s (6 + 6 * i + k))) := (wl_tl j).trans hj
      refine z_aaload d_Roo_howManyGaps_22 (i) 23 rfl wc_4 (Or.inr rfl) rfl (by omega) (by decide) (by rw [hTi]) ?_
      refine z_astore d_Roo_howManyGaps_23 25 rfl (by decide) rfl ?_
      refine z_iload_n d_Roo_howManyGaps_25 rfl 26 rfl ?_
      refine z_aload d_Roo_howManyGaps_26 rfl 28 rfl ?_
      refine z_ifnonnull d_Roo_howManyGaps_28 35 (by decide) ?_
      refine z_aload d_Roo_howManyGaps_35 rfl 37 rfl ?_
      refine z_invT d_Roo_howManyGaps_37 40 rfl hm_Tel_gaps lk_Roo_122 sm_Tel_gaps im_Tel_gaps (selT_gaps (kci_mem _)) hP (r_Tel_gaps _ _ hP) rfl rfl (by decide) rfl rfl (Nat.le_of_ble_eq_true rfl) ?_
      refine z_iadd d_Roo_howManyGaps_40 41 rfl ?_
      refine z_istore_n d_Roo_howManyGaps_41 42 rfl (by decide) rfl ?_
      refine z_iinc d_Roo_howManyGaps_42 1 (by decide) 45 rfl rfl (by decide) rfl ?_
      refine z_goto d_Roo_howManyGaps_45 13 (by decide) ?_
      exact z_Lg _ ih (by simp only [smm_lt hin]; first | (simp [zLw, List.set, nI_succ]; done) | (simp [zLw, List.set, nI_succ, *]; done))
    · refine z_aaload d_Roo_howManyGaps_22 (i) 23 rfl wc_4 (Or.inr rfl) rfl (by omega) (by decide) (by rw [hTT.2 i hin (by omega)]) ?_
      refine z_astoreN d_Roo_howManyGaps_23 25 rfl (by decide) rfl ?_
      refine z_iload_n d_Roo_howManyGaps_25 rfl 26 rfl ?_
      refine z_aloadN d_Roo_howManyGaps_26 rfl 28 rfl ?_
      refine z_ifnonnullN d_Roo_howManyGaps_28 31 rfl ?_
      refine z_iconst d_Roo_howManyGaps_31 0 (by decide) 32 rfl ?_
      refine z_goto d_Roo_howManyGaps_32 40 (by decide) ?_
      refine z_iadd d_Roo_howManyGaps_40 41 rfl ?_
      refine z_istore_n d_Roo_howManyGaps_41 42 rfl (by decide) rfl ?_
      refine z_iinc d_Roo_howManyGaps_42 1 (by decide) 45 rfl rfl (by decide) rfl ?_
      refine z_goto d_Roo_howManyGaps_45 13 (by decide) ?_
      exact z_Lg _ ih (by simp only [smm_ge hin]; simp [zLw, List.set, nI_succ])
def bc1 (x : Int32) : Int32 := x - ((x.toUInt32 >>> ((1 : Int32).toUInt32 &&& Int32.toUInt32 31)).toInt32 &&& 1431655765)
def bc2 (x : Int32) : Int32 := (x &&& 858993459) + ((x.toUInt32 >>> ((2 : Int32).toUInt32 &&& Int32.toUInt32 31)).toInt32 &&& 858993459)
def bc3 (x : Int32) : Int32 := (x + (x.toUInt32 >>> ((4 : Int32).toUInt32 &&& Int32.toUInt32 31)).toInt32) &&& 252645135
def bc4 (x : Int32) : Int32 := x + (x.toUInt32 >>> ((8 : Int32).toUInt32 &&& Int32.toUInt32 31)).toInt32
def bc5 (x : Int32) : Int32 := x + (x.toUInt32 >>> ((16 : Int32).toUInt32 &&& Int32.toUInt32 31)).toInt32
def bcI (x : Int32) : Int32 := bc5 (bc4 (bc3 (bc2 (bc1 x)))) &&& 63
set_option maxHeartbeats 400000 in
theorem r_Int_bitCount {hp : List zC} (x : Int32) : Ret 0 0 0 m_Int_bitCount [.int x] (hp) (some (.int (bcI x))) (hp) := by
  refine Ret.of (n := 0) (by decide) (rfl) rfl (fun X => ?_)
  refine z_iload_n d_Int_bitCount_0 rfl 1 rfl ?_
  refine z_iload_n d_Int_bitCount_1 rfl 2 rfl ?_
  refine z_iconst d_Int_bitCount_2 1 (by decide) 3 rfl ?_
  refine z_iushr d_Int_bitCount_3 4 rfl ?_
  refine z_ldc_w d_Int_bitCount_4 kn_Int_265 7 rfl ?_
  refine z_iand d_Int_bitCount_7 8 rfl ?_
  refine z_isub d_Int_bitCount_8 9 rfl ?_
  refine z_top (.int (bc1 x)) rfl ?_
  refine z_istore_n d_Int_bitCount_9 10 rfl (by decide) rfl ?_
  refine z_iload_n d_Int_bitCount_10 rfl 11 rfl ?_
  refine z_ldc_w d_Int_bitCount_11 kn_Int_266 14 rfl ?_
  refine z_iand d_Int_bitCount_14 15 rfl ?_
  refine z_iload_n d_Int_bitCount_15 rfl 16 rfl ?_
  refine z_iconst d_Int_bitCount_16 2 (by decide) 17 rfl ?_
  refine z_iushr d_Int_bitCount_17 18 rfl ?_
  refine z_ldc_w d_Int_bitCount_18 kn_Int_266 21 rfl ?_
  refine z_iand d_Int_bitCount_21 22 rfl ?_
  refine z_iadd d_Int_bitCount_22 23 rfl ?_
  refine z_top (.int (bc2 (bc1 x))) rfl ?_
  refine z_istore_n d_Int_bitCount_23 24 rfl (by decide) rfl ?_
  refine z_iload_n d_Int_bitCount_24 rfl 25 rfl ?_
  refine z_iload_n d_Int_bitCount_25 rfl 26 rfl ?_
  refine z_iconst d_Int_bitCount_26 4 (by decide) 27 rfl ?_
  refine z_iushr d_Int_bitCount_27 28 rfl ?_
  refine z_iadd d_Int_bitCount_28 29 rfl ?_
  refine z_ldc_w d_Int_bitCount_29 kn_Int_267 32 rfl ?_
  refine z_iand d_Int_bitCount_32 33 rfl ?_
  refine z_top (.int (bc3 (bc2 (bc1 x)))) rfl ?_
  refine z_istore_n d_Int_bitCount_33 34 rfl (by decide) rfl ?_
  refine z_iload_n d_Int_bitCount_34 rfl 35 rfl ?_
  refine z_iload_n d_Int_bitCount_35 rfl 36 rfl ?_
  refine z_bipush d_Int_bitCount_36 8 (by decide) 38 rfl ?_
  refine z_iushr d_Int_bitCount_38 39 rfl ?_
  refine z_iadd d_Int_bitCount_39 40 rfl ?_
  refine z_top (.int (bc4 (bc3 (bc2 (bc1 x))))) rfl ?_
  refine z_istore_n d_Int_bitCount_40 41 rfl (by decide) rfl ?_
  refine z_iload_n d_Int_bitCount_41 rfl 42 rfl ?_
  refine z_iload_n d_Int_bitCount_42 rfl 43 rfl ?_
  refine z_bipush d_Int_bitCount_43 16 (by decide) 45 rfl ?_
  refine z_iushr d_Int_bitCount_45 46 rfl ?_
  refine z_iadd d_Int_bitCount_46 47 rfl ?_
  refine z_top (.int (bc5 (bc4 (bc3 (bc2 (bc1 x)))))) rfl ?_
  refine z_istore_n d_Int_bitCount_47 48 rfl (by decide) rfl ?_
  refine z_iload_n d_Int_bitCount_48 rfl 49 rfl ?_
  refine z_bipush d_Int_bitCount_49 63 (by decide) 51 rfl ?_
  refine z_iand d_Int_bitCount_51 52 rfl ?_
  exact z_ireturn d_Int_bitCount_52 (rfl) (rfl)
set_option maxHeartbeats 400000 in
theorem r_Roo_howManyMarks {tk : Int32} {tp bt crf nt : Nat → Int32} {T PF PS : Nat → Option Nat} {C : Nat → Nat → Int32} {rc g pp bn sc : Nat → Int32} {b : zR} {u : zU} {tl : List zC} {s : Nat → Int32} {n : Nat} (hn : sc 0 = nI n) (hn30 : n ≤ 30) (hTT : TT tl T s n)  : Ret 1 0 0 m_Roo_howManyMarks [.ref 3] (wld (tk, tp, bt, (T, C, rc, PF, PS, g, pp, bn, sc), b, crf, nt) u tl) (some (.int (sm (fun i => bcI (s (6 + 6 * i + 3))) n))) (wld (tk, tp, bt, (T, C, rc, PF, PS, g, pp, bn, sc), b, crf, nt) u tl) := by
  refine Ret.of (n := 5) (by decide) (rfl) rfl (fun X => ?_)
  refine z_iconst d_Roo_howManyMarks_0 0 (by decide) 1 rfl ?_
  refine z_istore_n d_Roo_howManyMarks_1 2 rfl (by decide) rfl ?_
  refine z_aload_n d_Roo_howManyMarks_2 rfl 3 rfl ?_
  refine z_get d_Roo_howManyMarks_3 6 rfl fl_Roo_11_6 wc_3 rfl ?_
  refine z_astore_n d_Roo_howManyMarks_6 7 rfl (by decide) rfl ?_
  refine z_aload_n d_Roo_howManyMarks_7 rfl 8 rfl ?_
  refine z_alenR d_Roo_howManyMarks_8 9 rfl wc_4 (by decide) 30 (by decide) ?_
  refine z_istore_n d_Roo_howManyMarks_9 10 rfl (by decide) rfl ?_
  refine z_iconst d_Roo_howManyMarks_10 0 (by decide) 11 rfl ?_
  refine z_istore d_Roo_howManyMarks_11 13 rfl (by decide) rfl ?_
  refine z_Lw ([some (.ref 3), some (.int (sm (fun i => bcI (s (6 + 6 * i + 3))) (min 0 n))), some (.ref 4), some (.int 30), some (.int (nI 0)), none]) (by simp only [smm_0]; simp [zLw, List.set, zargs, nI_0]) ?_
  refine zloop (fun i => Z X m_Roo_howManyMarks 1 0 0 (some (.int (sm (fun i => bcI (s (6 + 6 * i + 3))) n))) (wld (tk, tp, bt, (T, C, rc, PF, PS, g, pp, bn, sc), b, crf, nt) u tl) 13 [some (.ref 3), some (.int (sm (fun i => bcI (s (6 + 6 * i + 3))) (min i n))), some (.ref 4), some (.int 30), some (.int (nI i)), none] [] (wld (tk, tp, bt, (T, C, rc, PF, PS, g, pp, bn, sc), b, crf, nt) u tl)) (30) ?_ ?_ 0 (Nat.zero_le _)
  · refine z_iload d_Roo_howManyMarks_13 rfl 15 rfl ?_
    refine z_iload_n d_Roo_howManyMarks_15 rfl 16 rfl ?_
    refine z_icmp_ge d_Roo_howManyMarks_16 51 19 (by decide) rfl (fun h1 => ?_) (fun hzz => absurd (by decide) hzz)
    refine z_iload_n d_Roo_howManyMarks_51 rfl 52 rfl ?_
    exact z_ireturn d_Roo_howManyMarks_52 (by rw [smm_30 hn30]) (rfl)
  · intro i hi ih
    refine z_iload d_Roo_howManyMarks_13 rfl 15 rfl ?_
    refine z_iload_n d_Roo_howManyMarks_15 rfl 16 rfl ?_
    refine z_icmp_ge d_Roo_howManyMarks_16 51 19 (by decide) rfl (fun hzz => absurd hzz (show ¬ nI 30 ≤ nI i from nI_ge hi (by decide))) (fun h2 => ?_)
    refine z_aload_n d_Roo_howManyMarks_19 rfl 20 rfl ?_
    refine z_iload d_Roo_howManyMarks_20 rfl 22 rfl ?_
    rcases Nat.lt_or_ge i n with hin | hin
    · obtain ⟨j, hTi, hj⟩ := hTT.1 i hin
      have hP : (wld (tk, tp, bt, (T, C, rc, PF, PS, g, pp, bn, sc), b, crf, nt) u tl)[51 + j]? = some (tcell (fun k => s (6 + 6 * i + k))) := (wl_tl j).trans hj
      refine z_aaload d_Roo_howManyMarks_22 (i) 23 rfl wc_4 (Or.inr rfl) rfl (by omega) (by decide) (by rw [hTi]) ?_
      refine z_astore d_Roo_howManyMarks_23 25 rfl (by decide) rfl ?_
      refine z_iload_n d_Roo_howManyMarks_25 rfl 26 rfl ?_
      refine z_aload d_Roo_howManyMarks_26 rfl 28 rfl ?_
      refine z_ifnonnull d_Roo_howManyMarks_28 35 (by decide) ?_
      refine z_aload d_Roo_howManyMarks_35 rfl 37 rfl ?_
      refine z_get d_Roo_howManyMarks_37 40 rfl (flT_Roo_126 (kci_mem _)) hP rfl ?_
      refine z_invs d_Roo_howManyMarks_40 43 rfl hm_Int_bitCount lk_Roo_127 st_Int_bitCount (r_Int_bitCount _) rfl rfl (by decide) rfl rfl (Nat.le_of_ble_eq_true rfl) ?_
      refine z_iadd d_Roo_howManyMarks_43 44 rfl ?_
      refine z_istore_n d_Roo_howManyMarks_44 45 rfl (by decide) rfl ?_
      refine z_iinc d_Roo_howManyMarks_45 1 (by decide) 48 rfl rfl (by decide) rfl ?_
      refine z_goto d_Roo_howManyMarks_48 13 (by decide) ?_
      exact z_Lg _ ih (by simp only [smm_lt hin]; first | (simp [zLw, List.set, nI_succ]; done) | (simp [zLw, List.set, nI_succ, *]; done))
    · refine z_aaload d_Roo_howManyMarks_22 (i) 23 rfl wc_4 (Or.inr rfl) rfl (by omega) (by decide) (by rw [hTT.2 i hin (by omega)]) ?_
      refine z_astoreN d_Roo_howManyMarks_23 25 rfl (by decide) rfl ?_
      refine z_iload_n d_Roo_howManyMarks_25 rfl 26 rfl ?_
      refine z_aloadN d_Roo_howManyMarks_26 rfl 28 rfl ?_
      refine z_ifnonnullN d_Roo_howManyMarks_28 31 rfl ?_
      refine z_iconst d_Roo_howManyMarks_31 0 (by decide) 32 rfl ?_
      refine z_goto d_Roo_howManyMarks_32 43 (by decide) ?_
      refine z_iadd d_Roo_howManyMarks_43 44 rfl ?_
      refine z_istore_n d_Roo_howManyMarks_44 45 rfl (by decide) rfl ?_
      refine z_iinc d_Roo_howManyMarks_45 1 (by decide) 48 rfl rfl (by decide) rfl ?_
      refine z_goto d_Roo_howManyMarks_48 13 (by decide) ?_
      exact z_Lg _ ih (by simp only [smm_ge hin]; simp [zLw, List.set, nI_succ])
set_option maxHeartbeats 400000 in
theorem r_Lir_howManyFitOnly {tk : Int32} {tp bt crf nt : Nat → Int32} {T PF PS : Nat → Option Nat} {C : Nat → Nat → Int32} {rc g pp bn sc : Nat → Int32} {b : zR} {u : zU} {tl : List zC} {s : Nat → Int32} {n : Nat} (hn : sc 0 = nI n) (hn30 : n ≤ 30) (hTT : TT tl T s n) (l : Nat) (m : Int32) (hl : l < 6) : Ret 5 0 0 m_Lir_howManyFitOnly [.ref 0, .int (nI l), .int m] (wld (tk, tp, bt, (T, C, rc, PF, PS, g, pp, bn, sc), b, crf, nt) u tl) (some (.int (sm (fun i => if s (6 + 6 * i + 3) &&& m = m then (if lf C g (sc 3) s i = 1 <<< (nI l &&& 31) then 1 else 0) else 0) n))) (wld (tk, tp, bt, (T, C, rc, PF, PS, g, pp, bn, sc), b, crf, nt) u tl) := by
  refine Ret.of (n := 5) (by decide) (rfl) rfl (fun X => ?_)
  refine z_iconst d_Lir_howManyFitOnly_0 0 (by decide) 1 rfl ?_
  refine z_istore_n d_Lir_howManyFitOnly_1 2 rfl (by decide) rfl ?_
  refine z_aload_n d_Lir_howManyFitOnly_2 rfl 3 rfl ?_
  refine z_get d_Lir_howManyFitOnly_3 6 rfl fl_Lir_19_10 wc_0 rfl ?_
  refine z_get d_Lir_howManyFitOnly_6 9 rfl fl_Lir_145_6 wc_3 rfl ?_
  refine z_astore d_Lir_howManyFitOnly_9 11 rfl (by decide) rfl ?_
  refine z_aload d_Lir_howManyFitOnly_11 rfl 13 rfl ?_
  refine z_alenR d_Lir_howManyFitOnly_13 14 rfl wc_4 (by decide) 30 (by decide) ?_
  refine z_istore d_Lir_howManyFitOnly_14 16 rfl (by decide) rfl ?_
  refine z_iconst d_Lir_howManyFitOnly_16 0 (by decide) 17 rfl ?_
  refine z_istore d_Lir_howManyFitOnly_17 19 rfl (by decide) rfl ?_
  refine z_Lw ([some (.ref 0), some (.int (nI l)), some (.int m), some (.int (sm (fun i => if s (6 + 6 * i + 3) &&& m = m then (if lf C g (sc 3) s i = 1 <<< (nI l &&& 31) then 1 else 0) else 0) (min 0 n))), some (.ref 4), some (.int 30), some (.int (nI 0)), none]) (by simp only [smm_0]; simp [zLw, List.set, zargs, nI_0]) ?_
  refine zloop (fun i => Z X m_Lir_howManyFitOnly 5 0 0 (some (.int (sm (fun i => if s (6 + 6 * i + 3) &&& m = m then (if lf C g (sc 3) s i = 1 <<< (nI l &&& 31) then 1 else 0) else 0) n))) (wld (tk, tp, bt, (T, C, rc, PF, PS, g, pp, bn, sc), b, crf, nt) u tl) 19 [some (.ref 0), some (.int (nI l)), some (.int m), some (.int (sm (fun i => if s (6 + 6 * i + 3) &&& m = m then (if lf C g (sc 3) s i = 1 <<< (nI l &&& 31) then 1 else 0) else 0) (min i n))), some (.ref 4), some (.int 30), some (.int (nI i)), none] [] (wld (tk, tp, bt, (T, C, rc, PF, PS, g, pp, bn, sc), b, crf, nt) u tl)) (30) ?_ ?_ 0 (Nat.zero_le _)
  · refine z_iload d_Lir_howManyFitOnly_19 rfl 21 rfl ?_
    refine z_iload d_Lir_howManyFitOnly_21 rfl 23 rfl ?_
    refine z_icmp_ge d_Lir_howManyFitOnly_23 73 26 (by decide) rfl (fun h1 => ?_) (fun hzz => absurd (by decide) hzz)
    refine z_iload_n d_Lir_howManyFitOnly_73 rfl 74 rfl ?_
    exact z_ireturn d_Lir_howManyFitOnly_74 (by rw [smm_30 hn30]) (rfl)
  · intro i hi ih
    refine z_iload d_Lir_howManyFitOnly_19 rfl 21 rfl ?_
    refine z_iload d_Lir_howManyFitOnly_21 rfl 23 rfl ?_
    refine z_icmp_ge d_Lir_howManyFitOnly_23 73 26 (by decide) rfl (fun hzz => absurd hzz (show ¬ nI 30 ≤ nI i from nI_ge hi (by decide))) (fun h2 => ?_)
    refine z_aload d_Lir_howManyFitOnly_26 rfl 28 rfl ?_
    refine z_iload d_Lir_howManyFitOnly_28 rfl 30 rfl ?_
    rcases Nat.lt_or_ge i n with hin | hin
    · obtain ⟨j, hTi, hj⟩ := hTT.1 i hin
      have hP : (wld (tk, tp, bt, (T, C, rc, PF, PS, g, pp, bn, sc), b, crf, nt) u tl)[51 + j]? = some (tcell (fun k => s (6 + 6 * i + k))) := (wl_tl j).trans hj
      refine z_aaload d_Lir_howManyFitOnly_30 (i) 31 rfl wc_4 (Or.inr rfl) rfl (by omega) (by decide) (by rw [hTi]) ?_
      refine z_astore d_Lir_howManyFitOnly_31 33 rfl (by decide) rfl ?_
      refine z_aload d_Lir_howManyFitOnly_33 rfl 35 rfl ?_
      refine z_ifnull d_Lir_howManyFitOnly_35 38 rfl ?_
      refine z_aload d_Lir_howManyFitOnly_38 rfl 40 rfl ?_
      refine z_get d_Lir_howManyFitOnly_40 43 rfl (flT_Lir_89 (kci_mem _)) hP rfl ?_
      refine z_iload_n d_Lir_howManyFitOnly_43 rfl 44 rfl ?_
      refine z_iand d_Lir_howManyFitOnly_44 45 rfl ?_
      refine z_iload_n d_Lir_howManyFitOnly_45 rfl 46 rfl ?_
      refine z_icmp_ne d_Lir_howManyFitOnly_46 67 49 (by decide) rfl (fun h3 => ?_) (fun h3 => ?_)
      · have e0 : ¬ s (6 + 6 * i + 3) &&& m = m := h3
        refine z_iinc d_Lir_howManyFitOnly_67 1 (by decide) 70 rfl rfl (by decide) rfl ?_
        refine z_goto d_Lir_howManyFitOnly_70 19 (by decide) ?_
        exact z_Lg _ ih (by simp only [smm_lt hin]; first | (simp [zLw, List.set, nI_succ, e0, e1]; done) | (simp [zLw, List.set, nI_succ, *]; done))
      · have e0 : s (6 + 6 * i + 3) &&& m = m := h3
        refine z_aload_n d_Lir_howManyFitOnly_49 rfl 50 rfl ?_
        refine z_get d_Lir_howManyFitOnly_50 53 rfl fl_Lir_19_10 wc_0 rfl ?_
        refine z_aload d_Lir_howManyFitOnly_53 rfl 55 rfl ?_
        refine z_invv d_Lir_howManyFitOnly_55 58 rfl hm_Roo_lawsFitted lk_Lir_281 im_Roo_lawsFitted sl_Roo_Roo_lawsFitted rfl wc_3 (r_Roo_lawsFitted _ _ hP) rfl rfl (by decide) rfl rfl (Nat.le_of_ble_eq_true rfl) ?_
        refine z_iconst d_Lir_howManyFitOnly_58 1 (by decide) 59 rfl ?_
        refine z_iload_n d_Lir_howManyFitOnly_59 rfl 60 rfl ?_
        refine z_ishl d_Lir_howManyFitOnly_60 61 rfl ?_
        refine z_icmp_ne d_Lir_howManyFitOnly_61 67 64 (by decide) rfl (fun h4 => ?_) (fun h4 => ?_)
        · have e1 : ¬ lf C g (sc 3) s i = 1 <<< (nI l &&& 31) := h4
          refine z_iinc d_Lir_howManyFitOnly_67 1 (by decide) 70 rfl rfl (by decide) rfl ?_
          refine z_goto d_Lir_howManyFitOnly_70 19 (by decide) ?_
          exact z_Lg _ ih (by simp only [smm_lt hin]; first | (simp [zLw, List.set, nI_succ, e0, e1]; done) | (simp [zLw, List.set, nI_succ, *]; done))
        · have e1 : lf C g (sc 3) s i = 1 <<< (nI l &&& 31) := h4
          refine z_iinc d_Lir_howManyFitOnly_64 1 (by decide) 67 rfl rfl (by decide) rfl ?_
          refine z_iinc d_Lir_howManyFitOnly_67 1 (by decide) 70 rfl rfl (by decide) rfl ?_
          refine z_goto d_Lir_howManyFitOnly_70 19 (by decide) ?_
          exact z_Lg _ ih (by simp only [smm_lt hin]; first | (simp [zLw, List.set, nI_succ, e0, e1]; done) | (simp [zLw, List.set, nI_succ, *]; done))
    · refine z_aaload d_Lir_howManyFitOnly_30 (i) 31 rfl wc_4 (Or.inr rfl) rfl (by omega) (by decide) (by rw [hTT.2 i hin (by omega)]) ?_
      refine z_astoreN d_Lir_howManyFitOnly_31 33 rfl (by decide) rfl ?_
      refine z_aloadN d_Lir_howManyFitOnly_33 rfl 35 rfl ?_
      refine z_ifnullN d_Lir_howManyFitOnly_35 67 (by decide) ?_
      refine z_iinc d_Lir_howManyFitOnly_67 1 (by decide) 70 rfl rfl (by decide) rfl ?_
      refine z_goto d_Lir_howManyFitOnly_70 19 (by decide) ?_
      exact z_Lg _ ih (by simp only [smm_ge hin]; simp [zLw, List.set, nI_succ])
