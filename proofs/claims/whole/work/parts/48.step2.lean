theorem st_cover  : ST m_Lir_cover m_Mod_cover [] := by
  intro hp hI
  obtain ⟨tk, p, pq, x1, x2, x3, x4, x5, x6, bt, ⟨T, C, rc, PF, PS, g, pp, bn, sc⟩, b, rf, nt, s, im, rd, md, tl, n, q, rfl, I', J⟩ := hI
  have I : RR T PF PS C rc g pp bn sc s tl n q := I'
  have h30 := I.n30
  have h10 := I.q10
  exact ST.go (r_Lir_cover I.cn I.n30 I.tt) (r_Mod_cover I.hn I.n30 I.rg.nz _ (cover_eq (nt := nt) I)) rfl (by decide) (INV.mk I J rfl)
theorem st_half (l : Int32) : ST m_Lir_half m_Mod_half [.int l] := by
  intro hp hI
  obtain ⟨tk, p, pq, x1, x2, x3, x4, x5, x6, bt, ⟨T, C, rc, PF, PS, g, pp, bn, sc⟩, b, rf, nt, s, im, rd, md, tl, n, q, rfl, I', J⟩ := hI
  have I : RR T PF PS C rc g pp bn sc s tl n q := I'
  have h30 := I.n30
  have h10 := I.q10
  by_cases hl : inR l 6 = true
  · obtain ⟨j, hj, rfl⟩ := inR_yes hl (n := 6) rfl (by decide)
    refine ST.go (r_Lir_half_0 I.cn I.n30 I.tt j hj) (r_Mod_half I.hn I.n30 I.rg.nz (nI j)) ?_ (by decide) (INV.mk I J (by rw [if_pos hl]))
    rw [if_pos hl, ixn (show j < 2 ^ 31 by omega), half_eq I hj 128 (Nat.le_refl _)]
  · exact ST.go (r_Lir_half_1 l (inR_f hl)) (r_Mod_half I.hn I.n30 I.rg.nz l) (by rw [if_neg hl]) (by decide) (INV.mk I J (by rw [if_neg hl]))
theorem st_sorts (w : Int32) : ST m_Lir_sorts m_Mod_sorts [.int w] := by
  intro hp hI
  obtain ⟨tk, p, pq, x1, x2, x3, x4, x5, x6, bt, ⟨T, C, rc, PF, PS, g, pp, bn, sc⟩, b, rf, nt, s, im, rd, md, tl, n, q, rfl, I', J⟩ := hI
  have I : RR T PF PS C rc g pp bn sc s tl n q := I'
  have h30 := I.n30
  have h10 := I.q10
  by_cases h0 : w = 0
  · subst h0
    refine ST.go (r_Lir_sorts_0 I.cn I.n30 I.tt) (r_Mod_sorts I.hn I.n30 I.rg.nz 0) ?_ (by decide) (INV.mk I J rfl)
    rw [sorts_eq I, if_pos (show inR 0 2 = true by decide), if_pos (show (0 : Int32) = 0 from rfl)]
  · by_cases h1 : w = 1
    · subst h1
      refine ST.go (r_Lir_sorts_1 I.cn I.n30 I.tt) (r_Mod_sorts I.hn I.n30 I.rg.nz 1) ?_ (by decide) (INV.mk I J rfl)
      rw [sorts_eq I, if_pos (show inR 1 2 = true by decide), if_neg (show ¬ (1 : Int32) = 0 by decide)]
    · have hw : ¬ inR w 2 = true := by rw [inR2_no h0 h1]; decide
      exact ST.go (r_Lir_sorts_2 w h0 h1) (r_Mod_sorts I.hn I.n30 I.rg.nz w) (by rw [if_neg hw]) (by decide) (INV.mk I J (by rw [if_neg hw]))
theorem st_alike (t : Int32) : ST m_Lir_alike m_Mod_alike [.int t] := by
  intro hp hI
  obtain ⟨tk, p, pq, x1, x2, x3, x4, x5, x6, bt, ⟨T, C, rc, PF, PS, g, pp, bn, sc⟩, b, rf, nt, s, im, rd, md, tl, n, q, rfl, I', J⟩ := hI
  have I : RR T PF PS C rc g pp bn sc s tl n q := I'
  have h30 := I.n30
  have h10 := I.q10
  by_cases h : inR t (s 0) = true
  · obtain ⟨i, hi, rfl⟩ := inR_yes h I.hn (by omega)
    refine ST.go (r_Lir_alike_0 I.cn I.n30 I.tt i hi) (r_Mod_alike I.hn I.n30 I.rg.nz (nI i)) ?_ (by decide) (INV.mk I J (by rw [if_pos h]))
    rw [if_pos h, ixn (show i < 2 ^ 31 by omega), alike_eq I hi]
  · exact ST.go (r_Lir_alike_1 I.cn I.n30 I.tt t (by rw [I.cs]; exact inR_f h)) (r_Mod_alike I.hn I.n30 I.rg.nz t) (by rw [if_neg h]) (by decide) (INV.mk I J (by rw [if_neg h]))
theorem st_share (l p0 : Int32) : ST m_Lir_share m_Mod_share [.int l, .int p0] := by
  intro hp hI
  obtain ⟨tk, p, pq, x1, x2, x3, x4, x5, x6, bt, ⟨T, C, rc, PF, PS, g, pp, bn, sc⟩, b, rf, nt, s, im, rd, md, tl, n, q, rfl, I', J⟩ := hI
  have I : RR T PF PS C rc g pp bn sc s tl n q := I'
  have h30 := I.n30
  have h10 := I.q10
  by_cases hl : inR l 6 = true
  · by_cases hp0 : inR p0 2 = true
    · obtain ⟨j, hj, rfl⟩ := inR_yes hl (n := 6) rfl (by decide)
      by_cases h0 : wsV1 s n = 0
      · refine ST.go (r_Lir_share_3 I.cn I.n30 I.tt j hj p0 hp0 (by rw [wc1_eq I]; exact h0)) (r_Mod_share I.hn I.n30 I.rg.nz (smN (wtN s) n) (fun l => smN (fun t => if fit s t l 0 = true then wtN s t else 0) n) (ws1_eq I).1 (ws1_eq I).2 (fun l _ => (ws2_eq I l).1) (fun l => Nat.lt_trans (ws2_eq I l).2 (by decide)) (nI j) p0) (by rw [if_pos hl, if_pos hp0, if_pos h0]) (by decide) (INV.mk I J (by rw [if_pos hl, if_pos hp0, if_pos h0]))
      · have hy : 0 < smN (wtN s) n := by
          rcases Nat.eq_zero_or_pos (smN (wtN s) n) with hz | hz
          · exact absurd (by rw [(ws1_eq I).1, hz]; rfl) h0
          · exact hz
        refine ST.go (r_Lir_share_0 I.cn I.n30 I.tt j hj p0 hp0 _ _ ((wc2_eq I hj).trans (ws2_eq I j).1) ((wc1_eq I).trans (ws1_eq I).1) (Nat.lt_trans (ws2_eq I j).2 (by decide)) (Nat.lt_trans (ws1_eq I).2 (by decide)) hy) (r_Mod_share I.hn I.n30 I.rg.nz (smN (wtN s) n) (fun l => smN (fun t => if fit s t l 0 = true then wtN s t else 0) n) (ws1_eq I).1 (ws1_eq I).2 (fun l _ => (ws2_eq I l).1) (fun l => Nat.lt_trans (ws2_eq I l).2 (by decide)) (nI j) p0) (by rw [if_pos hl, if_pos hp0, if_neg h0, ixn (show j < 2 ^ 31 by omega)]) (by decide) (INV.mk I J (by rw [if_pos hl, if_pos hp0, if_neg h0]))
    · obtain ⟨j, hj, rfl⟩ := inR_yes hl (n := 6) rfl (by decide)
      exact ST.go (r_Lir_share_2 j hj p0 (inR_f hp0)) (r_Mod_share I.hn I.n30 I.rg.nz (smN (wtN s) n) (fun l => smN (fun t => if fit s t l 0 = true then wtN s t else 0) n) (ws1_eq I).1 (ws1_eq I).2 (fun l _ => (ws2_eq I l).1) (fun l => Nat.lt_trans (ws2_eq I l).2 (by decide)) (nI j) p0) (by rw [if_pos hl, if_neg hp0]) (by decide) (INV.mk I J (by rw [if_pos hl, if_neg hp0]))
  · exact ST.go (r_Lir_share_1 l p0 (inR_f hl)) (r_Mod_share I.hn I.n30 I.rg.nz (smN (wtN s) n) (fun l => smN (fun t => if fit s t l 0 = true then wtN s t else 0) n) (ws1_eq I).1 (ws1_eq I).2 (fun l _ => (ws2_eq I l).1) (fun l => Nat.lt_trans (ws2_eq I l).2 (by decide)) l p0) (by rw [if_neg hl]) (by decide) (INV.mk I J (by rw [if_neg hl]))
theorem st_together (a e : Int32) : ST m_Lir_together m_Mod_together [.int a, .int e] := by
  intro hp hI
  obtain ⟨tk, p, pq, x1, x2, x3, x4, x5, x6, bt, ⟨T, C, rc, PF, PS, g, pp, bn, sc⟩, b, rf, nt, s, im, rd, md, tl, n, q, rfl, I', J⟩ := hI
  have I : RR T PF PS C rc g pp bn sc s tl n q := I'
  have h30 := I.n30
  have h10 := I.q10
  by_cases ha : inR a 8 = true
  · by_cases he : inR e 8 = true
    · refine ST.go (r_Lir_together_0 I.cn I.n30 I.tt a e ha he) (r_Mod_together I.hn I.n30 a e) ?_ (by decide) (INV.mk I J (by rw [if_pos ha, if_pos he]))
      rw [if_pos ha, if_pos he]
      by_cases h1 : sm (fun t => if mkd (s (6 + 6 * t + 3)) a = true then 1 else 0) n = 0
      · rw [if_pos h1, if_pos h1]
      · rw [if_neg h1, if_neg h1]
        by_cases h2 : sm (fun t => if mkd (s (6 + 6 * t + 3)) a = true then 0 else 1) n = 0
        · rw [if_pos h2, if_pos h2]
        · rw [if_neg h2, if_neg h2, tog_div (f := fun t => mkd (s (6 + 6 * t + 3)) a = true) h30 h1, tog_div' (f := fun t => mkd (s (6 + 6 * t + 3)) a = true) h30 h2]
    · exact ST.go (r_Lir_together_2 a e ha (inR_f he)) (r_Mod_together I.hn I.n30 a e) (by rw [if_pos ha, if_neg he]) (by decide) (INV.mk I J (by rw [if_pos ha, if_neg he]))
  · exact ST.go (r_Lir_together_1 a e (inR_f ha)) (r_Mod_together I.hn I.n30 a e) (by rw [if_neg ha]) (by decide) (INV.mk I J (by rw [if_neg ha]))
theorem st_twice (a e : Int32) : ST m_Lir_twice m_Mod_twice [.int a, .int e] := by
  intro hp hI
  obtain ⟨tk, p, pq, x1, x2, x3, x4, x5, x6, bt, ⟨T, C, rc, PF, PS, g, pp, bn, sc⟩, b, rf, nt, s, im, rd, md, tl, n, q, rfl, I', J⟩ := hI
  have I : RR T PF PS C rc g pp bn sc s tl n q := I'
  have h30 := I.n30
  have h10 := I.q10
  by_cases ha : inR a (s 0) = true
  · obtain ⟨i, hi, rfl⟩ := inR_yes ha I.hn (by omega)
    have hxi : ix (nI i) = i := ixn (by omega)
    by_cases he : inR e (s 0) = true
    · obtain ⟨j, hj, rfl⟩ := inR_yes he I.hn (by omega)
      have hxj : ix (nI j) = j := ixn (by omega)
      by_cases hy : s (6 + 6 * j + 4) ≤ s (6 + 6 * i + 4)
      · have hy2 : s (6 + 6 * ix (nI j) + 4) ≤ s (6 + 6 * ix (nI i) + 4) := by rw [hxi, hxj]; exact hy
        refine ST.go (r_Lir_twice_3 I.cn I.n30 I.tt i j hi hj hy) (r_Mod_twice I.hn I.n30 I.hq I.q10 (nI i) (nI j)) ?_ (by decide) ?_ <;> simp only [ha, he, hy2, Bool.false_eq_true, ↓reduceIte]
        exact INV.mk I J rfl
      · have hy2 : ¬ s (6 + 6 * ix (nI j) + 4) ≤ s (6 + 6 * ix (nI i) + 4) := by rw [hxi, hxj]; exact hy
        by_cases hq : q = 10
        · have hq1 : s 1 = 10 := by rw [I.hq, hq]; rfl
          refine ST.go (r_Lir_twice_6 I.cn I.n30 I.tt i j hi hj hy (by rw [I.cq, hq]; decide)) (r_Mod_twice I.hn I.n30 I.hq I.q10 (nI i) (nI j)) ?_ (by decide) ?_ <;> simp only [ha, he, hy2, hq1, Bool.false_eq_true, ↓reduceIte]
          exact INV.mk I J rfl
        · have hq1 : ¬ s 1 = 10 := fun z => hq (by rw [I.hq] at z; exact (nI_eq (b := 10) (by omega) (by decide)).mp z)
          refine ST.go (r_Lir_twice_0 I.cn I.n30 I.tt i j hi hj hy q I.cq (by omega)) (r_Mod_twice I.hn I.n30 I.hq I.q10 (nI i) (nI j)) ?_ (by decide) ?_ <;> simp only [ha, he, hy2, hq1, Bool.false_eq_true, ↓reduceIte]
          · rw [I.cq]
          · exact INV.mk (I.twice hi hj (by omega)) J rfl
    · refine ST.go (r_Lir_twice_2 I.cn I.n30 I.tt i hi e (by rw [I.cs]; exact inR_f he)) (r_Mod_twice I.hn I.n30 I.hq I.q10 (nI i) e) ?_ (by decide) ?_ <;> simp only [ha, he, Bool.false_eq_true, ↓reduceIte]
      exact INV.mk I J rfl
  · refine ST.go (r_Lir_twice_1 I.cn I.n30 I.tt a e (by rw [I.cs]; exact inR_f ha)) (r_Mod_twice I.hn I.n30 I.hq I.q10 a e) ?_ (by decide) ?_ <;> simp only [ha, Bool.false_eq_true, ↓reduceIte]
    exact INV.mk I J rfl
theorem st_grows (w p0 : Int32) : ST m_Lir_grows m_Mod_grows [.int w, .int p0] := by
  intro hp hI
  obtain ⟨tk, p, pq, x1, x2, x3, x4, x5, x6, bt, ⟨T, C, rc, PF, PS, g, pp, bn, sc⟩, b, rf, nt, s, im, rd, md, tl, n, q, rfl, I', J⟩ := hI
  have I : RR T PF PS C rc g pp bn sc s tl n q := I'
  have h30 := I.n30
  have h10 := I.q10
  by_cases hw : inR w 2 = true
  · by_cases hp0 : inR p0 2 = true
    · obtain ⟨j, hj, rfl⟩ := inR_yes hw (n := 2) rfl (by decide)
      rcases (show j = 0 ∨ j = 1 by omega) with rfl | rfl
      · by_cases h0 : g1V s 0 q = 0
        · refine ST.go (r_Lir_grows_30 I.cq I.q10 (ppr1 I) (ppr2 I) p0 hp0 ((gr1_eq I (by decide : 0 < 2)).trans h0)) (r_Mod_grows I.hn I.n30 I.hq I.q10 I.pr (fun w => if w < 2 then smN (paN s w) q else 0) (fun w => if w < 2 then smN (pbN s w) q else 0) (fun w hw => by rw [if_pos hw]; exact (g1_eq I hw).1) (fun w hw => by rw [if_pos hw]; exact (g2_eq I hw).1) (fun w => by by_cases hw : w < 2 <;> simp only [hw, Bool.false_eq_true, ↓reduceIte]; exact (g1_eq I hw).2; decide) (fun w => by by_cases hw : w < 2 <;> simp only [hw, Bool.false_eq_true, ↓reduceIte]; exact Nat.lt_trans (g2_eq I hw).2 (by decide); decide) (nI 0) p0) ?_ (by decide) ?_ <;> simp only [hw, hp0, show ix (nI 0) = 0 from rfl, h0, Bool.false_eq_true, ↓reduceIte]
          exact INV.mk I J rfl
        · have hy : 0 < smN (paN s 0) q := by
            rcases Nat.eq_zero_or_pos (smN (paN s 0) q) with hz | hz
            · exact absurd (by rw [(g1_eq I (by decide : 0 < 2)).1, hz]; rfl) h0
            · exact hz
          refine ST.go (r_Lir_grows_00 I.cq I.q10 (ppr1 I) (ppr2 I) p0 hp0 _ _ ((gr2_eq I (by decide : 0 < 2)).trans (g2_eq I (by decide)).1) ((gr1_eq I (by decide : 0 < 2)).trans (g1_eq I (by decide)).1) (Nat.lt_trans (g2_eq I (by decide)).2 (by decide)) (Nat.lt_trans (g1_eq I (by decide)).2 (by decide)) hy) (r_Mod_grows I.hn I.n30 I.hq I.q10 I.pr (fun w => if w < 2 then smN (paN s w) q else 0) (fun w => if w < 2 then smN (pbN s w) q else 0) (fun w hw => by rw [if_pos hw]; exact (g1_eq I hw).1) (fun w hw => by rw [if_pos hw]; exact (g2_eq I hw).1) (fun w => by by_cases hw : w < 2 <;> simp only [hw, Bool.false_eq_true, ↓reduceIte]; exact (g1_eq I hw).2; decide) (fun w => by by_cases hw : w < 2 <;> simp only [hw, Bool.false_eq_true, ↓reduceIte]; exact Nat.lt_trans (g2_eq I hw).2 (by decide); decide) (nI 0) p0) ?_ (by decide) ?_ <;> simp only [hw, hp0, show ix (nI 0) = 0 from rfl, h0, Bool.false_eq_true, ↓reduceIte]
          · rfl
          · exact INV.mk I J rfl
      · by_cases h0 : g1V s 1 q = 0
        · refine ST.go (r_Lir_grows_31 I.cq I.q10 (ppr1 I) (ppr2 I) p0 hp0 ((gr1_eq I (by decide : 1 < 2)).trans h0)) (r_Mod_grows I.hn I.n30 I.hq I.q10 I.pr (fun w => if w < 2 then smN (paN s w) q else 0) (fun w => if w < 2 then smN (pbN s w) q else 0) (fun w hw => by rw [if_pos hw]; exact (g1_eq I hw).1) (fun w hw => by rw [if_pos hw]; exact (g2_eq I hw).1) (fun w => by by_cases hw : w < 2 <;> simp only [hw, Bool.false_eq_true, ↓reduceIte]; exact (g1_eq I hw).2; decide) (fun w => by by_cases hw : w < 2 <;> simp only [hw, Bool.false_eq_true, ↓reduceIte]; exact Nat.lt_trans (g2_eq I hw).2 (by decide); decide) (nI 1) p0) ?_ (by decide) ?_ <;> simp only [hw, hp0, show ix (nI 1) = 1 from rfl, h0, Bool.false_eq_true, ↓reduceIte]
          exact INV.mk I J rfl
        · have hy : 0 < smN (paN s 1) q := by
            rcases Nat.eq_zero_or_pos (smN (paN s 1) q) with hz | hz
            · exact absurd (by rw [(g1_eq I (by decide : 1 < 2)).1, hz]; rfl) h0
            · exact hz
          refine ST.go (r_Lir_grows_01 I.cq I.q10 (ppr1 I) (ppr2 I) p0 hp0 _ _ ((gr2_eq I (by decide : 1 < 2)).trans (g2_eq I (by decide)).1) ((gr1_eq I (by decide : 1 < 2)).trans (g1_eq I (by decide)).1) (Nat.lt_trans (g2_eq I (by decide)).2 (by decide)) (Nat.lt_trans (g1_eq I (by decide)).2 (by decide)) hy) (r_Mod_grows I.hn I.n30 I.hq I.q10 I.pr (fun w => if w < 2 then smN (paN s w) q else 0) (fun w => if w < 2 then smN (pbN s w) q else 0) (fun w hw => by rw [if_pos hw]; exact (g1_eq I hw).1) (fun w hw => by rw [if_pos hw]; exact (g2_eq I hw).1) (fun w => by by_cases hw : w < 2 <;> simp only [hw, Bool.false_eq_true, ↓reduceIte]; exact (g1_eq I hw).2; decide) (fun w => by by_cases hw : w < 2 <;> simp only [hw, Bool.false_eq_true, ↓reduceIte]; exact Nat.lt_trans (g2_eq I hw).2 (by decide); decide) (nI 1) p0) ?_ (by decide) ?_ <;> simp only [hw, hp0, show ix (nI 1) = 1 from rfl, h0, Bool.false_eq_true, ↓reduceIte]
          · rfl
          · exact INV.mk I J rfl
    · refine ST.go (r_Lir_grows_2b w p0 hw (inR_f hp0)) (r_Mod_grows I.hn I.n30 I.hq I.q10 I.pr (fun w => if w < 2 then smN (paN s w) q else 0) (fun w => if w < 2 then smN (pbN s w) q else 0) (fun w hw => by rw [if_pos hw]; exact (g1_eq I hw).1) (fun w hw => by rw [if_pos hw]; exact (g2_eq I hw).1) (fun w => by by_cases hw : w < 2 <;> simp only [hw, Bool.false_eq_true, ↓reduceIte]; exact (g1_eq I hw).2; decide) (fun w => by by_cases hw : w < 2 <;> simp only [hw, Bool.false_eq_true, ↓reduceIte]; exact Nat.lt_trans (g2_eq I hw).2 (by decide); decide) w p0) ?_ (by decide) ?_ <;> simp only [hw, hp0, Bool.false_eq_true, ↓reduceIte]
      exact INV.mk I J rfl
  · refine ST.go (r_Lir_grows_2 w p0 (inR_f hw)) (r_Mod_grows I.hn I.n30 I.hq I.q10 I.pr (fun w => if w < 2 then smN (paN s w) q else 0) (fun w => if w < 2 then smN (pbN s w) q else 0) (fun w hw => by rw [if_pos hw]; exact (g1_eq I hw).1) (fun w hw => by rw [if_pos hw]; exact (g2_eq I hw).1) (fun w => by by_cases hw : w < 2 <;> simp only [hw, Bool.false_eq_true, ↓reduceIte]; exact (g1_eq I hw).2; decide) (fun w => by by_cases hw : w < 2 <;> simp only [hw, Bool.false_eq_true, ↓reduceIte]; exact Nat.lt_trans (g2_eq I hw).2 (by decide); decide) w p0) ?_ (by decide) ?_ <;> simp only [hw, Bool.false_eq_true, ↓reduceIte]
    exact INV.mk I J rfl
theorem st_glasses (l m : Int32) : ST m_Lir_glasses m_Mod_glasses [.int l, .int m] := by
  intro hp hI
  obtain ⟨tk, p, pq, x1, x2, x3, x4, x5, x6, bt, ⟨T, C, rc, PF, PS, g, pp, bn, sc⟩, b, rf, nt, s, im, rd, md, tl, n, q, rfl, I', J⟩ := hI
  have I : RR T PF PS C rc g pp bn sc s tl n q := I'
  have h30 := I.n30
  have h10 := I.q10
  by_cases hl : inR l 6 = true
  · obtain ⟨j, hj, rfl⟩ := inR_yes hl (n := 6) rfl (by decide)
    by_cases h1 : m < 1
    · exact ST.go (r_Lir_glasses_4 j hj m h1) (r_Mod_glasses_4 (nI j) m hl h1) rfl (by decide) (INV.mk I J rfl)
    · by_cases h5 : 5 < m
      · exact ST.go (r_Lir_glasses_6 j hj m h1 h5) (r_Mod_glasses_6 (nI j) m hl h1 h5) rfl (by decide) (INV.mk I J rfl)
      · obtain ⟨k, e, hk⟩ := nt_of (v := m) (m := 5) rfl (by decide) (fun z => h1 (Int32.lt_trans z (by decide))) h5
        subst e
        have hk1 : 1 ≤ k := by
          rcases Nat.eq_zero_or_pos k with hz | hz
          · rw [hz] at h1; exact absurd (by decide) h1
          · exact hz
        obtain ⟨r, er, hr⟩ := I.rg.rc j hj
        exact ST.go (r_Lir_glasses_0 j k r hj hk1 hk (by rw [I.crc j hj]; exact er) hr) (r_Mod_glasses_0 j k r hj hk1 hk er hr) (glasses_eq I hr) (by decide) (INV.mk I J rfl)
  · exact ST.go (r_Lir_glasses_1 l m (inR_f hl)) (r_Mod_glasses_1 l m (inR_f hl)) rfl (by decide) (INV.mk I J rfl)
theorem st_count (w : Int32) : ST m_Lir_count m_Mod_count [.int w] := by
  intro hp hI
  obtain ⟨tk, p, pq, x1, x2, x3, x4, x5, x6, bt, ⟨T, C, rc, PF, PS, g, pp, bn, sc⟩, b, rf, nt, s, im, rd, md, tl, n, q, rfl, I', J⟩ := hI
  have I : RR T PF PS C rc g pp bn sc s tl n q := I'
  have h30 := I.n30
  have h10 := I.q10
  by_cases h6 : inR w 6 = true
  · obtain ⟨j, hj, rfl⟩ := inR_yes h6 (n := 6) rfl (by decide)
    rcases (show j = 0 ∨ j = 1 ∨ j = 2 ∨ j = 3 ∨ j = 4 ∨ j = 5 by omega) with rfl | rfl | rfl | rfl | rfl | rfl
    · exact ST.go (r_Lir_count_0 I.cn I.n30 I.tt) (r_Mod_count_0 I.hn I.n30 (marks_hm I)) I.cs (by decide) (INV.mk I J rfl)
    · exact ST.go (r_Lir_count_1 I.cn I.n30 I.tt) (r_Mod_count_1 I.hn I.n30 (marks_hm I)) (smK_eq I) (by decide) (INV.mk I J rfl)
    · exact ST.go (r_Lir_count_2 I.cn I.n30 I.tt) (r_Mod_count_2 I.hn I.n30 (marks_hm I)) (by rw [I.cq, I.hq]) (by decide) (INV.mk I J rfl)
    · exact ST.go (r_Lir_count_3 I.cn I.n30 I.tt) (r_Mod_count_3 I.hn I.n30 (marks_hm I)) (gaps_eq I) (by decide) (INV.mk I J rfl)
    · exact ST.go (r_Lir_count_4 I.cn I.n30 I.tt) (r_Mod_count_4 I.hn I.n30 (marks_hm I)) (marks_eq I) (by decide) (INV.mk I J rfl)
    · exact ST.go (r_Lir_count_5 I.cn I.n30 I.tt) (r_Mod_count_5 I.hn I.n30 (marks_hm I)) J.2.2.1.symm (by decide) (INV.mk I J rfl)
  · have ho := inR_out (m := 6) h6 (by decide)
    by_cases h17 : inR w 17 = true
    · obtain ⟨k, hk, rfl⟩ := inR_yes h17 (n := 17) rfl (by decide)
      rw [nI_toInt (by omega)] at ho
      by_cases h11 : k < 11
      · exact ST.go (r_Lir_count_o (nI k) (by rw [nI_toInt (by omega)]; omega) (Or.inl (nI_lt (b := 11) h11 (by decide)))) (r_Mod_count_o (nI k) (by rw [nI_toInt (by omega)]; omega) (fun z => absurd (nI_le (b := 10) (by omega) (by decide)) z)) rfl (by decide) (INV.mk I J rfl)
      · obtain ⟨j, rfl⟩ : ∃ j, k = 11 + j := ⟨k - 11, by omega⟩
        exact ST.go (r_Lir_count_r j (by omega)) (r_Mod_count_r j (by omega)) rfl (by decide) (INV.mk I J rfl)
    · have h2 : w.toInt < 0 ∨ 17 ≤ w.toInt := inR_out (m := 17) h17 (by decide)
      have h3 : w < 11 ∨ 17 ≤ w := by
        rcases h2 with h2 | h2
        · exact Or.inl (Int32.lt_iff_toInt_lt.mpr (by rw [show (11 : Int32).toInt = 11 from rfl]; omega))
        · exact Or.inr (Int32.le_iff_toInt_le.mpr (by rw [show (17 : Int32).toInt = 17 from rfl]; omega))
      refine ST.go (r_Lir_count_o w (by omega) h3) (r_Mod_count_o w (by omega) (fun z => ?_)) rfl (by decide) (INV.mk I J rfl)
      rcases h3 with h3 | h3
      · exfalso
        refine z (Int32.le_iff_toInt_le.mpr ?_)
        have := Int32.lt_iff_toInt_lt.mp h3
        rw [show (11 : Int32).toInt = 11 from rfl] at this
        rw [show (10 : Int32).toInt = 10 from rfl]; omega
      · exact h3
