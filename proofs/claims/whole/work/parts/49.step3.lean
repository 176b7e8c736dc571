theorem SD.app {tk : Int32} {p : Nat} {bt : Nat → Int32} {b : zR} {im md : Nat → Int32} {tl : List zC} (x : List zC) (J : SD tk p bt b im md tl) : SD tk p bt b im md (tl ++ x) := by
  refine ⟨?_, J.2⟩
  rcases J.1 with h | ⟨n2, q2, h⟩
  · exact Or.inl h
  · exact Or.inr ⟨n2, q2, RR.app h⟩
theorem SD.fed {tk : Int32} {p k : Nat} {bt : Nat → Int32} {b : zR} {im md : Nat → Int32} {tl : List zC} {w : Int64} (J : SD tk p bt b im md tl) (h : p + k ≤ 24) : SD tk (p + k) (fdT bt p w k) b im (upd md 1 (nI (p + k))) tl :=
  ⟨J.1, J.2.1, rfl, h, J.2.2.2.2.fd⟩
theorem SD.cut {tk : Int32} {p : Nat} {bt : Nat → Int32} {b : zR} {im md : Nat → Int32} {tl : List zC} {v : Int32} (J : SD tk p bt b im md tl) : SD tk 0 bt b im (upd (upd md 2 v) 1 0) tl :=
  ⟨J.1, J.2.1, rfl, Nat.zero_le _, fun j hj => absurd hj (Nat.not_lt_zero j)⟩
theorem st_feed (k8 : Int32) (w8 : Int64) : ST m_Lir_feed m_Mod_feed [.int k8, .long w8] := by
  intro hp hI
  obtain ⟨tk, p, pq, x1, x2, x3, x4, x5, x6, bt, ⟨T, C, rc, PF, PS, g, pp, bn, sc⟩, b, rf, nt, s, im, rd, md, tl, n, q, rfl, I', J⟩ := hI
  have I : RR T PF PS C rc g pp bn sc s tl n q := I'
  have h30 := I.n30
  have h10 := I.q10
  by_cases h1 : k8 < 1
  · exact ST.go (r_Lir_feed_4 k8 w8 h1) (r_Mod_feed_4 k8 w8 h1) rfl (by decide) (INV.mk I J rfl)
  · by_cases h8 : 8 < k8
    · exact ST.go (r_Lir_feed_6 k8 w8 h1 h8) (r_Mod_feed_6 k8 w8 h1 h8) rfl (by decide) (INV.mk I J rfl)
    · obtain ⟨k, e, hk⟩ := nt_of (v := k8) (m := 8) rfl (by decide) (fun z => h1 (Int32.lt_trans z (by decide))) h8
      subst e
      have hk1 : 1 ≤ k := by
        rcases Nat.eq_zero_or_pos k with hz | hz
        · rw [hz] at h1; exact absurd (by decide) h1
        · exact hz
      have hp24 := J.2.2.2.1
      by_cases hpk : p + k ≤ 24
      · exact ST.go (r_Lir_feed_0 k w8 hk1 hk hpk) (r_Mod_feed_0 k p w8 J.2.2.1 hk1 hk hpk) rfl (by decide) (INV.mk I (J.fed hpk) rfl)
      · refine ST.go (r_Lir_feed_7 (nI k) w8 h1 h8 ?_) (r_Mod_feed_7 (nI k) w8 h1 h8 ?_) rfl (by decide) (INV.mk I J rfl)
        · rw [show (24 : Int32) = nI 24 from rfl, pk_sub hp24]
          exact nI_ge (by omega) (by omega)
        · rw [J.2.2.1, nI_add]
          exact nI_ge (b := p + k) (a := 24) (by omega) (by omega)
theorem st_telling  : ST m_Lir_telling m_Mod_telling [] := by
  intro hp hI
  obtain ⟨tk, p, pq, x1, x2, x3, x4, x5, x6, bt, ⟨T, C, rc, PF, PS, g, pp, bn, sc⟩, b, rf, nt, s, im, rd, md, tl, n, q, rfl, I', J⟩ := hI
  have I : RR T PF PS C rc g pp bn sc s tl n q := I'
  have h30 := I.n30
  have h10 := I.q10
  by_cases hn : n = 30
  · exact ST.go (r_Lir_telling_6 (by rw [I.cn, hn]; decide)) (r_Mod_telling_6 (by rw [I.hn, hn]; rfl)) rfl (by decide) (INV.mk I J rfl)
  · have hn3 : n < 30 := by omega
    have hp24 := J.2.2.2.1
    have hG : GD (f1 bt p 0 (rd0 rd)).2.2 := f1_gd rd0_gd
    cases hok : (f1 bt p 0 (rd0 rd)).1 with
    | false =>
      obtain ⟨z', e', c', m', y', a', h1⟩ := r_Lir_telling_f (tk := tk) (bt := bt) (crf := rf) (nt := nt) (T := T) (PF := PF) (PS := PS) (C := C) (rc := rc) (g := g) (pp := pp) (bn := bn) (sc := sc) (b := b) (u := (rf, s, im, bt, rd, md)) (tl := tl) (p := p) (q := pq) (z := x1) (e := x2) (c := x3) (m := x4) (y := x5) (a := x6) I.cn hn3 rd hp24 J.2.2.2.2 hok
      exact ST.go h1 (r_Mod_telling_f I.hn I.n30 hp24 J.2.2.1 hn3 hok) rfl (by decide) (INV.mk I J.cut rfl)
    | true =>
      obtain ⟨z', e', c', m', y', a', ⟨ez, ee, ec, em, ey, ea⟩, h1⟩ := r_Lir_telling_t (tk := tk) (bt := bt) (crf := rf) (nt := nt) (T := T) (PF := PF) (PS := PS) (C := C) (rc := rc) (g := g) (pp := pp) (bn := bn) (sc := sc) (b := b) (u := (rf, s, im, bt, rd, md)) (tl := tl) (p := p) (q := pq) (z := x1) (e := x2) (c := x3) (m := x4) (y := x5) (a := x6) I.cn hn3 rd hp24 J.2.2.2.2 hok hG.2.2.2.2.2
      subst ez ee ec em ey ea
      exact ST.go h1 (r_Mod_telling_t I.hn I.n30 hp24 J.2.2.1 hn3 hok) rfl (by decide) (INV.mk (I.telling hG hn3) (J.cut.app _) rfl)
theorem cpO_in {f g : Nat → Option Nat} {k j : Nat} (h : j < k) : cpO f g k j = f j := if_pos h
theorem RR.copy {T PF PS T2 PF2 PS2 : Nat → Option Nat} {C C2 : Nat → Nat → Int32} {rc g pp bn sc s rc2 g2 pp2 bn2 sc2 s2 : Nat → Int32} {tl : List zC} {n q : Nat} (I : RR T PF PS C rc g pp bn sc s tl n q) :
    RR (cpO T T2 30) (cpO PF PF2 10) (cpO PS PS2 10) (cpC C C2 6) (cp rc rc2 6) (cp g g2 2) (cp pp pp2 10) (upd (upd (upd (upd bn2 0 (bn 0)) 1 (bn 1)) 2 (bn 2)) 3 (bn 3)) (upd (upd (upd (upd sc2 0 (sc 0)) 1 (sc 1)) 2 (sc 2)) 3 (sc 3)) (cp s s2 268) tl n q := by
  refine I.same (fun i hi => cpO_in hi) (fun i hi => cpO_in hi) (fun i hi => cpO_in hi) (fun l k hl hk => ?_) (fun i hi => cp_in hi) (fun i hi => cp_in hi) (fun i hi => cp_in hi) (fun j hj => ?_) (fun j hj => ?_) (fun j hj => cp_in hj)
  · show (if l < 6 then cp (C l) (C2 l) 7 else C2 l) k = C l k
    rw [if_pos hl]; exact cp_in hk
  · rcases (show j = 0 ∨ j = 1 ∨ j = 2 ∨ j = 3 by omega) with rfl | rfl | rfl | rfl <;> rfl
  · rcases (show j = 0 ∨ j = 1 ∨ j = 2 ∨ j = 3 by omega) with rfl | rfl | rfl | rfl <;> rfl
theorem st_image  : ST m_Lir_image m_Mod_image [] := by
  intro hp hI
  obtain ⟨tk, p, pq, x1, x2, x3, x4, x5, x6, bt, ⟨T, C, rc, PF, PS, g, pp, bn, sc⟩, b, rf, nt, s, im, rd, md, tl, n, q, rfl, I', J⟩ := hI
  have I : RR T PF PS C rc g pp bn sc s tl n q := I'
  have h30 := I.n30
  have h10 := I.q10
  obtain ⟨T2, C2, rc2, PF2, PS2, g2, pp2, bn2, sc2⟩ := b
  exact ST.go (r_Lir_image I.to.1 I.to.2.1 I.to.2.2 (by rw [I.c3]; exact I.b01)) r_Mod_image I.cs (by decide) (INV.mk I ⟨Or.inr ⟨n, q, I.copy⟩, rfl, J.2.2⟩ rfl)
theorem st_on  : ST m_Lir_on m_Mod_on [] := by
  intro hp hI
  obtain ⟨tk, p, pq, x1, x2, x3, x4, x5, x6, bt, ⟨T, C, rc, PF, PS, g, pp, bn, sc⟩, b, rf, nt, s, im, rd, md, tl, n, q, rfl, I', J⟩ := hI
  have I : RR T PF PS C rc g pp bn sc s tl n q := I'
  have h30 := I.n30
  have h10 := I.q10
  obtain ⟨T2, C2, rc2, PF2, PS2, g2, pp2, bn2, sc2⟩ := b
  by_cases h : tk = 0
  · have hm : md 0 = 0 := by rw [J.2.1]; exact h
    refine ST.go (r_Lir_on_3 h) r_Mod_on ?_ (by decide) ?_ <;> simp only [hm, Bool.false_eq_true, ↓reduceIte]
    exact INV.mk I J rfl
  · have hm : ¬ md 0 = 0 := by rw [J.2.1]; exact h
    rcases J.1 with h0 | ⟨n2, q2, I2'⟩
    · exact absurd h0 h
    · have I2 : RR T2 PF2 PS2 C2 rc2 g2 pp2 bn2 sc2 im tl n2 q2 := I2'
      refine ST.go (r_Lir_on_0 I2.to.1 I2.to.2.1 I2.to.2.2 (by rw [I2.c3]; exact I2.b01) h) r_Mod_on ?_ (by decide) ?_ <;> simp only [hm, Bool.false_eq_true, ↓reduceIte]
      · exact I2.cs
      · exact INV.mk I2.copy J rfl
