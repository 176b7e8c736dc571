/-! THE STATE'S RELATION UNDER CHANGES -/
theorem inR_ix {t a : Int32} (h : inR t a = true) {n : Nat} (ha : a = nI n) (hn : n < 2 ^ 31) : t = nI (ix t) ∧ ix t < n := by
  obtain ⟨i, hi, rfl⟩ := inR_yes h ha hn
  have : (nI i).toNatClampNeg = i := nI_clamp (by omega)
  exact ⟨by show nI i = nI (nI i).toNatClampNeg; rw [this], by show (nI i).toNatClampNeg < n; rw [this]; exact hi⟩
theorem nt_of {v M : Int32} {m : Nat} (hM : M = nI m) (hm : m < 2 ^ 31) (h0 : ¬ v < 0) (h1 : ¬ M < v) : NT m v := by
  subst hM
  obtain ⟨j, hj, e⟩ := nI_of2 (nI_toInt hm) h0 (Int32.not_lt.mp h1)
  exact ⟨j, e, hj⟩
theorem TT.sg {tl : List zC} {T : Nat → Option Nat} {s s' : Nat → Int32} {n : Nat} (h : TT tl T s n) (hn : n ≤ 30) (hs : ∀ j, 6 ≤ j → j < 186 → s' j = s j) : TT tl T s' n := by
  refine ⟨fun i hi => ?_, h.2⟩
  obtain ⟨j, e1, e2⟩ := h.1 i hi
  refine ⟨j, e1, e2.trans (congrArg some ?_)⟩
  unfold tcell
  simp only [hs (6 + 6 * i + 0) (by omega) (by omega), hs (6 + 6 * i + 1) (by omega) (by omega), hs (6 + 6 * i + 2) (by omega) (by omega), hs (6 + 6 * i + 3) (by omega) (by omega), hs (6 + 6 * i + 4) (by omega) (by omega), hs (6 + 6 * i + 5) (by omega) (by omega)]
theorem TT.app {tl x : List zC} {T : Nat → Option Nat} {s : Nat → Int32} {n : Nat} (h : TT tl T s n) : TT (tl ++ x) T s n := by
  refine ⟨fun i hi => ?_, h.2⟩
  obtain ⟨j, e1, e2⟩ := h.1 i hi
  exact ⟨j, e1, by rw [List.getElem?_append_left (List.getElem?_eq_some_iff.mp e2).1]; exact e2⟩
theorem PR.sg {s s' : Nat → Int32} {q n : Nat} (h : PR s q n) (hq : q ≤ 10) (hs : ∀ j, 234 ≤ j → j < 254 → s' j = s j) : PR s' q n := fun k hk => by
  rw [hs (234 + 2 * k) (by omega) (by omega), hs (234 + 2 * k + 1) (by omega) (by omega)]
  exact h k hk
section
variable {T PF PS T' PF' PS' : Nat → Option Nat} {C C' : Nat → Nat → Int32} {rc g pp bn sc s rc' g' pp' bn' sc' s' : Nat → Int32} {tl : List zC} {n q : Nat}
theorem RR.app {x : List zC} (I : RR T PF PS C rc g pp bn sc s tl n q) : RR T PF PS C rc g pp bn sc s (tl ++ x) n q :=
  RR.mk I.hn I.n30 I.cn I.hq I.q10 I.cq I.c2 I.c3 I.b01 I.cg I.cC I.crc I.cpp I.cbn I.tt.app I.pf I.pr I.pn I.rg
/-- all that was told agrees -/
theorem RR.same (I : RR T PF PS C rc g pp bn sc s tl n q) (hT : ∀ i, i < 30 → T' i = T i) (hPF : ∀ k, k < 10 → PF' k = PF k) (hPS : ∀ k, k < 10 → PS' k = PS k)
    (hC : ∀ l k, l < 6 → k < 7 → C' l k = C l k) (hrc : ∀ l, l < 6 → rc' l = rc l) (hg : ∀ w, w < 2 → g' w = g w) (hpp : ∀ r, r < 10 → pp' r = pp r) (hbn : ∀ j, j < 4 → bn' j = bn j) (hsc : ∀ j, j < 4 → sc' j = sc j) (hs : ∀ j, j < 268 → s' j = s j) :
    RR T' PF' PS' C' rc' g' pp' bn' sc' s' tl n q := by
  have h30 := I.n30
  have h10 := I.q10
  refine RR.mk (by rw [hs 0 (by decide)]; exact I.hn) I.n30 (by rw [hsc 0 (by decide)]; exact I.cn) (by rw [hs 1 (by decide)]; exact I.hq) I.q10 (by rw [hsc 1 (by decide)]; exact I.cq)
    (by rw [hsc 2 (by decide), hs 3 (by decide)]; exact I.c2) (by rw [hsc 3 (by decide), hs 2 (by decide)]; exact I.c3) (by rw [hs 2 (by decide)]; exact I.b01)
    (fun w hw => by rw [hg w hw, hs _ (by omega)]; exact I.cg w hw) (fun l k hl hk => by rw [hC l k hl hk, hs _ (by omega)]; exact I.cC l k hl hk) (fun l hl => by rw [hrc l hl, hs _ (by omega)]; exact I.crc l hl)
    (fun r hr => by rw [hpp r hr, hs _ (by omega)]; exact I.cpp r hr) (fun j hj => by rw [hbn j hj, hs _ (by omega)]; exact I.cbn j hj) ?_ ?_ (I.pr.sg I.q10 (fun j _ h => hs j (by omega))) (fun k h1 h2 => by rw [hPF k h2, hPS k h2]; exact I.pn k h1 h2) ?_
  · have ht := I.tt.sg I.n30 (s' := s') (fun j _ h => hs j (by omega))
    exact ⟨fun i hi => by rw [hT i (by omega)]; exact ht.1 i hi, fun i h1 h2 => by rw [hT i h2]; exact ht.2 i h1 h2⟩
  · intro k hk
    obtain ⟨p1, p2⟩ := I.pr k hk
    rw [hPF k (by omega), hPS k (by omega), hs (234 + 2 * k) (by omega), hs (234 + 2 * k + 1) (by omega), hT _ (by omega), hT _ (by omega)]
    exact I.pf k hk
  · have R := I.rg
    exact RGS.mk (fun t ht w hw => by rw [hs _ (by omega)]; exact R.tz t ht w hw) (fun t ht => by rw [hs _ (by omega)]; exact R.tc t ht) (fun t ht => by rw [hs _ (by omega)]; exact R.tm t ht) (fun t ht => by rw [hs _ (by omega)]; exact R.ty t ht) (fun t ht => by rw [hs _ (by omega)]; exact R.ta t ht)
      (fun w hw => by rw [hs _ (by omega)]; exact R.gr w hw) (fun l hl => by rw [hs _ (by omega)]; exact R.rc l hl) (fun r hr => by rw [hs _ (by omega)]; exact R.pp r hr) (fun j hj => by rw [hs _ (by omega)]; exact R.bn j hj) (by rw [hs _ (by omega)]; exact R.bm)
/-- what is set, the Tellings and the pairs apart -/
theorem RR.put (I : RR T PF PS C rc g pp bn sc s tl n q) (h0 : s' 0 = s 0) (h1 : s' 1 = s 1) (k0 : sc' 0 = sc 0) (k1 : sc' 1 = sc 1) (k2 : sc' 2 = s' 3) (k3 : sc' 3 = s' 2) (b2 : s' 2 = 0 ∨ s' 2 = 1)
    (hg : ∀ w, w < 2 → g' w = s' (4 + w)) (hC : ∀ l k, l < 6 → k < 7 → C' l k = s' (186 + 8 * l + k)) (hrc : ∀ l, l < 6 → rc' l = s' (186 + 8 * l + 7)) (hpp : ∀ r, r < 10 → pp' r = s' (254 + r)) (hbn : ∀ j, j < 4 → bn' j = s' (264 + j))
    (ht : ∀ j, 6 ≤ j → j < 186 → s' j = s j) (hpr : ∀ j, 234 ≤ j → j < 254 → s' j = s j) (r1 : ∀ w, w < 2 → NT 50 (s' (4 + w))) (r2 : ∀ l, l < 6 → NT 10 (s' (186 + 8 * l + 7))) (r3 : ∀ r, r < 10 → NT 999 (s' (254 + r))) (r4 : ∀ j, j < 2 → NT 999 (s' (264 + j))) (r5 : NT 255 (s' 267)) :
    RR T PF PS C' rc' g' pp' bn' sc' s' tl n q := by
  have h30 := I.n30
  have h10 := I.q10
  refine RR.mk (by rw [h0]; exact I.hn) I.n30 (by rw [k0]; exact I.cn) (by rw [h1]; exact I.hq) I.q10 (by rw [k1]; exact I.cq) k2 k3 b2 hg hC hrc hpp hbn (I.tt.sg I.n30 ht) ?_ (I.pr.sg I.q10 hpr) I.pn ?_
  · intro k hk
    rw [hpr (234 + 2 * k) (by omega) (by omega), hpr (234 + 2 * k + 1) (by omega) (by omega)]
    exact I.pf k hk
  · have R := I.rg
    exact RGS.mk (fun t h w hw => by rw [ht _ (by omega) (by omega)]; exact R.tz t h w hw) (fun t h => by rw [ht _ (by omega) (by omega)]; exact R.tc t h) (fun t h => by rw [ht _ (by omega) (by omega)]; exact R.tm t h) (fun t h => by rw [ht _ (by omega) (by omega)]; exact R.ty t h) (fun t h => by rw [ht _ (by omega) (by omega)]; exact R.ta t h) r1 r2 r3 r4 r5
theorem RR.law (I : RR T PF PS C rc g pp bn sc s tl n q) {l w : Nat} {v : Int32} (hl : l < 6) (hw : w < 7) : RR T PF PS (fun i => if i = l then upd (C l) w v else C i) rc g pp bn sc (upd s (186 + 8 * l + w) v) tl n q := by
  have U : ∀ j, j ≠ 186 + 8 * l + w → upd s (186 + 8 * l + w) v j = s j := fun j h => pk_un h
  have R := I.rg
  refine I.put (U 0 (by omega)) (U 1 (by omega)) rfl rfl (by rw [U 3 (by omega)]; exact I.c2) (by rw [U 2 (by omega)]; exact I.c3) (by rw [U 2 (by omega)]; exact I.b01) (fun i h => by rw [U _ (by omega)]; exact I.cg i h) (fun i k h1 h2 => ?_) (fun i h => by rw [U _ (by omega)]; exact I.crc i h) (fun i h => by rw [U _ (by omega)]; exact I.cpp i h) (fun i h => by rw [U _ (by omega)]; exact I.cbn i h) (fun j h1 h2 => U j (by omega)) (fun j h1 h2 => U j (by omega))
    (fun i h => by rw [U _ (by omega)]; exact R.gr i h) (fun i h => by rw [U _ (by omega)]; exact R.rc i h) (fun i h => by rw [U _ (by omega)]; exact R.pp i h) (fun i h => by rw [U _ (by omega)]; exact R.bn i h) (by rw [U _ (by omega)]; exact R.bm)
  by_cases h : i = l
  · subst h
    show (if i = i then upd (C i) w v else C i) k = _
    rw [if_pos rfl]
    by_cases hk : k = w
    · subst hk; rw [pk_us, pk_us]
    · rw [pk_un hk, U _ (by omega)]; exact I.cC i k h1 h2
  · show (if i = l then upd (C l) w v else C i) k = _
    rw [if_neg h, U _ (by omega)]; exact I.cC i k h1 h2
theorem RR.right (I : RR T PF PS C rc g pp bn sc s tl n q) {v : Int32} (hv : v = 0 ∨ v = 1) : RR T PF PS C rc g pp bn (upd sc 3 v) (upd s 2 v) tl n q := by
  have U : ∀ j, j ≠ 2 → upd s 2 v j = s j := fun j h => pk_un h
  have V : ∀ j, j ≠ 3 → upd sc 3 v j = sc j := fun j h => pk_un h
  have R := I.rg
  exact I.put (U 0 (by omega)) (U 1 (by omega)) (V 0 (by omega)) (V 1 (by omega)) (by rw [U 3 (by omega), V 2 (by omega)]; exact I.c2) (by rw [pk_us, pk_us]) (by rw [pk_us]; exact hv) (fun i h => by rw [U _ (by omega)]; exact I.cg i h) (fun i k h1 h2 => by rw [U _ (by omega)]; exact I.cC i k h1 h2) (fun i h => by rw [U _ (by omega)]; exact I.crc i h) (fun i h => by rw [U _ (by omega)]; exact I.cpp i h) (fun i h => by rw [U _ (by omega)]; exact I.cbn i h) (fun j h1 h2 => U j (by omega)) (fun j h1 h2 => U j (by omega))
    (fun i h => by rw [U _ (by omega)]; exact R.gr i h) (fun i h => by rw [U _ (by omega)]; exact R.rc i h) (fun i h => by rw [U _ (by omega)]; exact R.pp i h) (fun i h => by rw [U _ (by omega)]; exact R.bn i h) (by rw [U _ (by omega)]; exact R.bm)
theorem RR.strokes (I : RR T PF PS C rc g pp bn sc s tl n q) {v : Int32} : RR T PF PS C rc g pp bn (upd sc 2 v) (upd s 3 v) tl n q := by
  have U : ∀ j, j ≠ 3 → upd s 3 v j = s j := fun j h => pk_un h
  have V : ∀ j, j ≠ 2 → upd sc 2 v j = sc j := fun j h => pk_un h
  have R := I.rg
  exact I.put (U 0 (by omega)) (U 1 (by omega)) (V 0 (by omega)) (V 1 (by omega)) (by rw [pk_us, pk_us]) (by rw [U 2 (by omega), V 3 (by omega)]; exact I.c3) (by rw [U 2 (by omega)]; exact I.b01) (fun i h => by rw [U _ (by omega)]; exact I.cg i h) (fun i k h1 h2 => by rw [U _ (by omega)]; exact I.cC i k h1 h2) (fun i h => by rw [U _ (by omega)]; exact I.crc i h) (fun i h => by rw [U _ (by omega)]; exact I.cpp i h) (fun i h => by rw [U _ (by omega)]; exact I.cbn i h) (fun j h1 h2 => U j (by omega)) (fun j h1 h2 => U j (by omega))
    (fun i h => by rw [U _ (by omega)]; exact R.gr i h) (fun i h => by rw [U _ (by omega)]; exact R.rc i h) (fun i h => by rw [U _ (by omega)]; exact R.pp i h) (fun i h => by rw [U _ (by omega)]; exact R.bn i h) (by rw [U _ (by omega)]; exact R.bm)
theorem RR.growth (I : RR T PF PS C rc g pp bn sc s tl n q) {w : Nat} {v : Int32} (hw : w < 2) (hv : NT 50 v) : RR T PF PS C rc (upd g w v) pp bn sc (upd s (4 + w) v) tl n q := by
  have U : ∀ j, j ≠ 4 + w → upd s (4 + w) v j = s j := fun j h => pk_un h
  have R := I.rg
  refine I.put (U 0 (by omega)) (U 1 (by omega)) rfl rfl (by rw [U 3 (by omega)]; exact I.c2) (by rw [U 2 (by omega)]; exact I.c3) (by rw [U 2 (by omega)]; exact I.b01) (fun i h => ?_) (fun i k h1 h2 => by rw [U _ (by omega)]; exact I.cC i k h1 h2) (fun i h => by rw [U _ (by omega)]; exact I.crc i h) (fun i h => by rw [U _ (by omega)]; exact I.cpp i h) (fun i h => by rw [U _ (by omega)]; exact I.cbn i h) (fun j h1 h2 => U j (by omega)) (fun j h1 h2 => U j (by omega))
    (fun i h => ?_) (fun i h => by rw [U _ (by omega)]; exact R.rc i h) (fun i h => by rw [U _ (by omega)]; exact R.pp i h) (fun i h => by rw [U _ (by omega)]; exact R.bn i h) (by rw [U _ (by omega)]; exact R.bm)
  · by_cases e : i = w
    · subst e; rw [pk_us, pk_us]
    · rw [pk_un e, U _ (by omega)]; exact I.cg i h
  · by_cases e : i = w
    · subst e; rw [pk_us]; exact hv
    · rw [U _ (by omega)]; exact R.gr i h
theorem RR.people (I : RR T PF PS C rc g pp bn sc s tl n q) {w : Nat} {v : Int32} (hw : w < 10) (hv : NT 999 v) : RR T PF PS C rc g (upd pp w v) bn sc (upd s (254 + w) v) tl n q := by
  have U : ∀ j, j ≠ 254 + w → upd s (254 + w) v j = s j := fun j h => pk_un h
  have R := I.rg
  refine I.put (U 0 (by omega)) (U 1 (by omega)) rfl rfl (by rw [U 3 (by omega)]; exact I.c2) (by rw [U 2 (by omega)]; exact I.c3) (by rw [U 2 (by omega)]; exact I.b01) (fun i h => by rw [U _ (by omega)]; exact I.cg i h) (fun i k h1 h2 => by rw [U _ (by omega)]; exact I.cC i k h1 h2) (fun i h => by rw [U _ (by omega)]; exact I.crc i h) (fun i h => ?_) (fun i h => by rw [U _ (by omega)]; exact I.cbn i h) (fun j h1 h2 => U j (by omega)) (fun j h1 h2 => U j (by omega))
    (fun i h => by rw [U _ (by omega)]; exact R.gr i h) (fun i h => by rw [U _ (by omega)]; exact R.rc i h) (fun i h => ?_) (fun i h => by rw [U _ (by omega)]; exact R.bn i h) (by rw [U _ (by omega)]; exact R.bm)
  · by_cases e : i = w
    · subst e; rw [pk_us, pk_us]
    · rw [pk_un e, U _ (by omega)]; exact I.cpp i h
  · by_cases e : i = w
    · subst e; rw [pk_us]; exact hv
    · rw [U _ (by omega)]; exact R.pp i h
theorem RR.reach (I : RR T PF PS C rc g pp bn sc s tl n q) {w : Nat} {v : Int32} (hw : w < 6) (hv : NT 10 v) : RR T PF PS C (upd rc w v) g pp bn sc (upd s (186 + 8 * w + 7) v) tl n q := by
  have U : ∀ j, j ≠ 186 + 8 * w + 7 → upd s (186 + 8 * w + 7) v j = s j := fun j h => pk_un h
  have R := I.rg
  refine I.put (U 0 (by omega)) (U 1 (by omega)) rfl rfl (by rw [U 3 (by omega)]; exact I.c2) (by rw [U 2 (by omega)]; exact I.c3) (by rw [U 2 (by omega)]; exact I.b01) (fun i h => by rw [U _ (by omega)]; exact I.cg i h) (fun i k h1 h2 => by rw [U _ (by omega)]; exact I.cC i k h1 h2) (fun i h => ?_) (fun i h => by rw [U _ (by omega)]; exact I.cpp i h) (fun i h => by rw [U _ (by omega)]; exact I.cbn i h) (fun j h1 h2 => U j (by omega)) (fun j h1 h2 => U j (by omega))
    (fun i h => by rw [U _ (by omega)]; exact R.gr i h) (fun i h => ?_) (fun i h => by rw [U _ (by omega)]; exact R.pp i h) (fun i h => by rw [U _ (by omega)]; exact R.bn i h) (by rw [U _ (by omega)]; exact R.bm)
  · by_cases e : i = w
    · subst e; rw [pk_us, pk_us]
    · rw [pk_un e, U _ (by omega)]; exact I.crc i h
  · by_cases e : i = w
    · subst e; rw [pk_us]; exact hv
    · rw [U _ (by omega)]; exact R.rc i h
theorem RR.bench (I : RR T PF PS C rc g pp bn sc s tl n q) {z e c m : Int32} (hz : NT 999 z) (he : NT 999 e) (hm : NT 255 m) : RR T PF PS C rc g pp (upd (upd (upd (upd bn 0 z) 1 e) 2 c) 3 m) sc (upd (upd (upd (upd s 264 z) 265 e) 266 c) 267 m) tl n q := by
  have U : ∀ j, j < 264 → upd (upd (upd (upd s 264 z) 265 e) 266 c) 267 m j = s j := fun j h => by rw [pk_un (by omega), pk_un (by omega), pk_un (by omega), pk_un (by omega)]
  have R := I.rg
  refine I.put (U 0 (by omega)) (U 1 (by omega)) rfl rfl (by rw [U 3 (by omega)]; exact I.c2) (by rw [U 2 (by omega)]; exact I.c3) (by rw [U 2 (by omega)]; exact I.b01) (fun i h => by rw [U _ (by omega)]; exact I.cg i h) (fun i k h1 h2 => by rw [U _ (by omega)]; exact I.cC i k h1 h2) (fun i h => by rw [U _ (by omega)]; exact I.crc i h) (fun i h => by rw [U _ (by omega)]; exact I.cpp i h) (fun i h => ?_) (fun j h1 h2 => U j (by omega)) (fun j h1 h2 => U j (by omega))
    (fun i h => by rw [U _ (by omega)]; exact R.gr i h) (fun i h => by rw [U _ (by omega)]; exact R.rc i h) (fun i h => by rw [U _ (by omega)]; exact R.pp i h) (fun i h => ?_) hm
  · rcases (show i = 0 ∨ i = 1 ∨ i = 2 ∨ i = 3 by omega) with rfl | rfl | rfl | rfl <;> rfl
  · rcases (show i = 0 ∨ i = 1 by omega) with rfl | rfl
    · exact hz
    · exact he
theorem RR.twice (I : RR T PF PS C rc g pp bn sc s tl n q) {a e : Nat} (ha : a < n) (he : e < n) (hq : q < 10) : RR T (va_up PF q (T a)) (va_up PS q (T e)) C rc g pp bn (upd sc 1 (sc 1 + 1)) (upd (upd (upd s (234 + 2 * q) (nI a)) (234 + 2 * q + 1) (nI e)) 1 (nI q + 1)) tl n (q + 1) := by
  have h30 := I.n30
  have U : ∀ j, j ≠ 1 → j ≠ 234 + 2 * q → j ≠ 234 + 2 * q + 1 → upd (upd (upd s (234 + 2 * q) (nI a)) (234 + 2 * q + 1) (nI e)) 1 (nI q + 1) j = s j := fun j h1 h2 h3 => by rw [pk_un h1, pk_un h3, pk_un h2]
  have Ua : upd (upd (upd s (234 + 2 * q) (nI a)) (234 + 2 * q + 1) (nI e)) 1 (nI q + 1) (234 + 2 * q) = nI a := by rw [pk_un (by omega), pk_un (by omega), pk_us]
  have Ue : upd (upd (upd s (234 + 2 * q) (nI a)) (234 + 2 * q + 1) (nI e)) 1 (nI q + 1) (234 + 2 * q + 1) = nI e := by rw [pk_un (by omega), pk_us]
  have V : ∀ j, j ≠ 1 → upd sc 1 (sc 1 + 1) j = sc j := fun j h => pk_un h
  have R := I.rg
  have ca : (nI a).toNatClampNeg = a := nI_clamp (by omega)
  have ce : (nI e).toNatClampNeg = e := nI_clamp (by omega)
  refine RR.mk (by rw [U 0 (by omega) (by omega) (by omega)]; exact I.hn) I.n30 (by rw [V 0 (by omega)]; exact I.cn) (by rw [pk_us]; exact nI_1 q) (by omega) (by rw [pk_us, I.cq]; exact nI_1 q)
    (by rw [V 2 (by omega), U 3 (by omega) (by omega) (by omega)]; exact I.c2) (by rw [V 3 (by omega), U 2 (by omega) (by omega) (by omega)]; exact I.c3) (by rw [U 2 (by omega) (by omega) (by omega)]; exact I.b01)
    (fun i h => by rw [U _ (by omega) (by omega) (by omega)]; exact I.cg i h) (fun i k h1 h2 => by rw [U _ (by omega) (by omega) (by omega)]; exact I.cC i k h1 h2) (fun i h => by rw [U _ (by omega) (by omega) (by omega)]; exact I.crc i h) (fun i h => by rw [U _ (by omega) (by omega) (by omega)]; exact I.cpp i h) (fun i h => by rw [U _ (by omega) (by omega) (by omega)]; exact I.cbn i h)
    (I.tt.sg I.n30 (fun j h1 h2 => U j (by omega) (by omega) (by omega))) ?_ ?_ ?_ ?_
  · intro k hk
    by_cases h : k = q
    · subst h
      rw [Ua, Ue]
      refine ⟨?_, ?_⟩
      · show (if k = k then T a else PF k) = T (nI a).toNatClampNeg
        rw [if_pos rfl, ca]
      · show (if k = k then T e else PS k) = T (nI e).toNatClampNeg
        rw [if_pos rfl, ce]
    · rw [U _ (by omega) (by omega) (by omega), U _ (by omega) (by omega) (by omega)]
      have := I.pf k (by omega)
      show (if k = q then T a else PF k) = _ ∧ (if k = q then T e else PS k) = _
      rw [if_neg h, if_neg h]; exact this
  · intro k hk
    by_cases h : k = q
    · subst h
      rw [Ua, Ue]
      refine ⟨⟨?_, ?_⟩, ?_, ?_⟩
      · show nI a = nI (nI a).toNatClampNeg
        rw [ca]
      · show (nI a).toNatClampNeg < n
        rw [ca]; exact ha
      · show nI e = nI (nI e).toNatClampNeg
        rw [ce]
      · show (nI e).toNatClampNeg < n
        rw [ce]; exact he
    · rw [U _ (by omega) (by omega) (by omega), U _ (by omega) (by omega) (by omega)]
      exact I.pr k (by omega)
  · intro k h1 h2
    have := I.pn k (by omega) h2
    show (if k = q then T a else PF k) = _ ∧ (if k = q then T e else PS k) = _
    rw [if_neg (by omega), if_neg (by omega)]; exact this
  · exact RGS.mk (fun t h w hw => by rw [U _ (by omega) (by omega) (by omega)]; exact R.tz t h w hw) (fun t h => by rw [U _ (by omega) (by omega) (by omega)]; exact R.tc t h) (fun t h => by rw [U _ (by omega) (by omega) (by omega)]; exact R.tm t h) (fun t h => by rw [U _ (by omega) (by omega) (by omega)]; exact R.ty t h) (fun t h => by rw [U _ (by omega) (by omega) (by omega)]; exact R.ta t h)
      (fun i h => by rw [U _ (by omega) (by omega) (by omega)]; exact R.gr i h) (fun i h => by rw [U _ (by omega) (by omega) (by omega)]; exact R.rc i h) (fun i h => by rw [U _ (by omega) (by omega) (by omega)]; exact R.pp i h) (fun i h => by rw [U _ (by omega) (by omega) (by omega)]; exact R.bn i h) (by rw [U _ (by omega) (by omega) (by omega)]; exact R.bm)
/-- what a Telling that is read holds -/
def GD (rd : Nat → Int32) : Prop := GP 999 (rd 0) ∧ GP 999 (rd 1) ∧ GP 7 (rd 2) ∧ NT 255 (rd 3) ∧ NT 99 (rd 4) ∧ (rd 5 = 0 ∨ rd 5 = 1)
theorem RR.telling (I : RR T PF PS C rc g pp bn sc s tl n q) {rd : Nat → Int32} (hd : GD rd) (hn : n < 30) : RR (va_up T n (some (51 + tl.length))) PF PS C rc g pp bn (upd sc 0 (nI n + 1)) (tlS s n rd) (tl ++ [tcell (tv6 (rd 0) (rd 1) (rd 2) (rd 3) (rd 4) (rd 5))]) (n + 1) q := by
  have h10 := I.q10
  have U : ∀ j, j ≠ 0 → (j < 6 + 6 * n ∨ 12 + 6 * n ≤ j) → tlS s n rd j = s j := fun j h1 h2 => by
    unfold tlS
    rw [if_neg h1, if_neg (by omega)]
  have N : ∀ k, k < 6 → tlS s n rd (6 + 6 * n + k) = rd k := fun k hk => by
    unfold tlS
    rw [if_neg (by omega), if_pos (by omega), show 6 + 6 * n + k - (6 + 6 * n) = k by omega]
  have V : ∀ j, j ≠ 0 → upd sc 0 (nI n + 1) j = sc j := fun j h => pk_un h
  have R := I.rg
  have Tn : ∀ i, i ≠ n → va_up T n (some (51 + tl.length)) i = T i := fun i h => if_neg h
  refine RR.mk (nI_1 n) (by omega) (by rw [pk_us]; exact nI_1 n) (by rw [U 1 (by omega) (by omega)]; exact I.hq) I.q10 (by rw [V 1 (by omega)]; exact I.cq)
    (by rw [V 2 (by omega), U 3 (by omega) (by omega)]; exact I.c2) (by rw [V 3 (by omega), U 2 (by omega) (by omega)]; exact I.c3) (by rw [U 2 (by omega) (by omega)]; exact I.b01)
    (fun i h => by rw [U _ (by omega) (by omega)]; exact I.cg i h) (fun i k h1 h2 => by rw [U _ (by omega) (by omega)]; exact I.cC i k h1 h2) (fun i h => by rw [U _ (by omega) (by omega)]; exact I.crc i h) (fun i h => by rw [U _ (by omega) (by omega)]; exact I.cpp i h) (fun i h => by rw [U _ (by omega) (by omega)]; exact I.cbn i h)
    ?_ ?_ ?_ I.pn ?_
  · refine ⟨fun i hi => ?_, fun i h1 h2 => by rw [Tn i (by omega)]; exact I.tt.2 i (by omega) h2⟩
    by_cases h : i = n
    · subst h
      refine ⟨tl.length, if_pos rfl, ?_⟩
      rw [List.getElem?_append_right (Nat.le_refl _), Nat.sub_self]
      refine congrArg some ?_
      unfold tcell
      simp only [N 0 (by decide), N 1 (by decide), N 2 (by decide), N 3 (by decide), N 4 (by decide), N 5 (by decide)]
      rfl
    · obtain ⟨j, e1, e2⟩ := I.tt.app.1 i (by omega)
      refine ⟨j, by rw [Tn i h]; exact e1, e2.trans (congrArg some ?_)⟩
      unfold tcell
      simp only [U (6 + 6 * i + 0) (by omega) (by omega), U (6 + 6 * i + 1) (by omega) (by omega), U (6 + 6 * i + 2) (by omega) (by omega), U (6 + 6 * i + 3) (by omega) (by omega), U (6 + 6 * i + 4) (by omega) (by omega), U (6 + 6 * i + 5) (by omega) (by omega)]
  · intro k hk
    obtain ⟨p1, p2⟩ := I.pr k hk
    rw [U _ (by omega) (by omega), U _ (by omega) (by omega), Tn _ (by omega), Tn _ (by omega)]
    exact I.pf k hk
  · intro k hk
    obtain ⟨p1, p2⟩ := I.pr k hk
    rw [U _ (by omega) (by omega), U _ (by omega) (by omega)]
    exact ⟨⟨p1.1, by omega⟩, p2.1, by omega⟩
  · have key : ∀ t, t < n + 1 → t ≠ n → t < n := fun t h1 h2 => by omega
    refine RGS.mk (fun t h w hw => ?_) (fun t h => ?_) (fun t h => ?_) (fun t h => ?_) (fun t h => ?_)
      (fun i h => by rw [U _ (by omega) (by omega)]; exact R.gr i h) (fun i h => by rw [U _ (by omega) (by omega)]; exact R.rc i h) (fun i h => by rw [U _ (by omega) (by omega)]; exact R.pp i h) (fun i h => by rw [U _ (by omega) (by omega)]; exact R.bn i h) (by rw [U _ (by omega) (by omega)]; exact R.bm)
    · by_cases e : t = n
      · subst e
        rw [N w (by omega)]
        rcases (show w = 0 ∨ w = 1 by omega) with rfl | rfl
        · exact hd.1
        · exact hd.2.1
      · rw [U _ (by omega) (by omega)]; exact R.tz t (key t h e) w hw
    · by_cases e : t = n
      · subst e
        rw [N 2 (by omega)]; exact hd.2.2.1
      · rw [U _ (by omega) (by omega)]; exact R.tc t (key t h e)
    · by_cases e : t = n
      · subst e
        rw [N 3 (by omega)]; exact hd.2.2.2.1
      · rw [U _ (by omega) (by omega)]; exact R.tm t (key t h e)
    · by_cases e : t = n
      · subst e
        rw [N 4 (by omega)]; exact hd.2.2.2.2.1
      · rw [U _ (by omega) (by omega)]; exact R.ty t (key t h e)
    · by_cases e : t = n
      · subst e
        rw [N 5 (by omega)]; exact hd.2.2.2.2.2
      · rw [U _ (by omega) (by omega)]; exact R.ta t (key t h e)
theorem RR.to (I : RR T PF PS C rc g pp bn sc s tl n q) : TO tl T 30 ∧ TO tl PF 10 ∧ TO tl PS 10 := by
  have hT : TO tl T 30 := fun i hi => by
    by_cases h : i < n
    · obtain ⟨j, e1, e2⟩ := I.tt.1 i h
      exact Or.inr ⟨j, _, e1, e2⟩
    · exact Or.inl (I.tt.2 i (by omega) hi)
  refine ⟨hT, fun k hk => ?_, fun k hk => ?_⟩
  · by_cases h : k < q
    · obtain ⟨p1, p2⟩ := I.pr k h
      rw [(I.pf k h).1]
      exact hT _ (by have := I.n30; omega)
    · exact Or.inl (I.pn k (by omega) hk).1
  · by_cases h : k < q
    · obtain ⟨p1, p2⟩ := I.pr k h
      rw [(I.pf k h).2]
      exact hT _ (by have := I.n30; omega)
    · exact Or.inl (I.pn k (by omega) hk).2
end
