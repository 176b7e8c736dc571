/-! THE CLASS'S STATE AND THE REFERENCE'S ROW -/
def NT (m : Nat) (v : Int32) : Prop := ∃ x : Nat, v = nI x ∧ x ≤ m
def GP (m : Nat) (v : Int32) : Prop := v = -9 ∨ NT m v
def RGS (s : Nat → Int32) (n : Nat) : Prop := (∀ t, t < n → ∀ w, w < 2 → GP 999 (s (6 + 6 * t + w))) ∧ (∀ t, t < n → GP 7 (s (6 + 6 * t + 2))) ∧ (∀ t, t < n → NT 255 (s (6 + 6 * t + 3))) ∧ (∀ t, t < n → NT 99 (s (6 + 6 * t + 4))) ∧ (∀ t, t < n → s (6 + 6 * t + 5) = 0 ∨ s (6 + 6 * t + 5) = 1) ∧ (∀ w, w < 2 → NT 50 (s (4 + w))) ∧ (∀ l, l < 6 → NT 10 (s (186 + 8 * l + 7))) ∧ (∀ r, r < 10 → NT 999 (s (254 + r))) ∧ (∀ j, j < 2 → NT 999 (s (264 + j))) ∧ (NT 255 (s 267))
theorem RGS.tz {s : Nat → Int32} {n : Nat} (h : RGS s n) : ∀ t, t < n → ∀ w, w < 2 → GP 999 (s (6 + 6 * t + w)) := h.1
theorem RGS.tc {s : Nat → Int32} {n : Nat} (h : RGS s n) : ∀ t, t < n → GP 7 (s (6 + 6 * t + 2)) := h.2.1
theorem RGS.tm {s : Nat → Int32} {n : Nat} (h : RGS s n) : ∀ t, t < n → NT 255 (s (6 + 6 * t + 3)) := h.2.2.1
theorem RGS.ty {s : Nat → Int32} {n : Nat} (h : RGS s n) : ∀ t, t < n → NT 99 (s (6 + 6 * t + 4)) := h.2.2.2.1
theorem RGS.ta {s : Nat → Int32} {n : Nat} (h : RGS s n) : ∀ t, t < n → s (6 + 6 * t + 5) = 0 ∨ s (6 + 6 * t + 5) = 1 := h.2.2.2.2.1
theorem RGS.gr {s : Nat → Int32} {n : Nat} (h : RGS s n) : ∀ w, w < 2 → NT 50 (s (4 + w)) := h.2.2.2.2.2.1
theorem RGS.rc {s : Nat → Int32} {n : Nat} (h : RGS s n) : ∀ l, l < 6 → NT 10 (s (186 + 8 * l + 7)) := h.2.2.2.2.2.2.1
theorem RGS.pp {s : Nat → Int32} {n : Nat} (h : RGS s n) : ∀ r, r < 10 → NT 999 (s (254 + r)) := h.2.2.2.2.2.2.2.1
theorem RGS.bn {s : Nat → Int32} {n : Nat} (h : RGS s n) : ∀ j, j < 2 → NT 999 (s (264 + j)) := h.2.2.2.2.2.2.2.2.1
theorem RGS.bm {s : Nat → Int32} {n : Nat} (h : RGS s n) : NT 255 (s 267) := h.2.2.2.2.2.2.2.2.2
theorem RGS.mk {s : Nat → Int32} {n : Nat} (h0 : ∀ t, t < n → ∀ w, w < 2 → GP 999 (s (6 + 6 * t + w))) (h1 : ∀ t, t < n → GP 7 (s (6 + 6 * t + 2))) (h2 : ∀ t, t < n → NT 255 (s (6 + 6 * t + 3))) (h3 : ∀ t, t < n → NT 99 (s (6 + 6 * t + 4))) (h4 : ∀ t, t < n → s (6 + 6 * t + 5) = 0 ∨ s (6 + 6 * t + 5) = 1) (h5 : ∀ w, w < 2 → NT 50 (s (4 + w))) (h6 : ∀ l, l < 6 → NT 10 (s (186 + 8 * l + 7))) (h7 : ∀ r, r < 10 → NT 999 (s (254 + r))) (h8 : ∀ j, j < 2 → NT 999 (s (264 + j))) (h9 : NT 255 (s 267)) : RGS s n := ⟨h0, h1, h2, h3, h4, h5, h6, h7, h8, h9⟩
def RR (T PF PS : Nat → Option Nat) (C : Nat → Nat → Int32) (rc g pp bn sc s : Nat → Int32) (tl : List zC) (n q : Nat) : Prop := (s 0 = nI n) ∧ (n ≤ 30) ∧ (sc 0 = nI n) ∧ (s 1 = nI q) ∧ (q ≤ 10) ∧ (sc 1 = nI q) ∧ (sc 2 = s 3) ∧ (sc 3 = s 2) ∧ (s 2 = 0 ∨ s 2 = 1) ∧ (∀ w, w < 2 → g w = s (4 + w)) ∧ (∀ l k, l < 6 → k < 7 → C l k = s (186 + 8 * l + k)) ∧ (∀ l, l < 6 → rc l = s (186 + 8 * l + 7)) ∧ (∀ r, r < 10 → pp r = s (254 + r)) ∧ (∀ j, j < 4 → bn j = s (264 + j)) ∧ (TT tl T s n) ∧ (∀ k, k < q → PF k = T (ix (s (234 + 2 * k))) ∧ PS k = T (ix (s (234 + 2 * k + 1)))) ∧ (PR s q n) ∧ (∀ k, q ≤ k → k < 10 → PF k = none ∧ PS k = none) ∧ (RGS s n)
theorem RR.hn {T PF PS : Nat → Option Nat} {C : Nat → Nat → Int32} {rc g pp bn sc s : Nat → Int32} {tl : List zC} {n q : Nat} (h : RR T PF PS C rc g pp bn sc s tl n q) : s 0 = nI n := h.1
theorem RR.n30 {T PF PS : Nat → Option Nat} {C : Nat → Nat → Int32} {rc g pp bn sc s : Nat → Int32} {tl : List zC} {n q : Nat} (h : RR T PF PS C rc g pp bn sc s tl n q) : n ≤ 30 := h.2.1
theorem RR.cn {T PF PS : Nat → Option Nat} {C : Nat → Nat → Int32} {rc g pp bn sc s : Nat → Int32} {tl : List zC} {n q : Nat} (h : RR T PF PS C rc g pp bn sc s tl n q) : sc 0 = nI n := h.2.2.1
theorem RR.hq {T PF PS : Nat → Option Nat} {C : Nat → Nat → Int32} {rc g pp bn sc s : Nat → Int32} {tl : List zC} {n q : Nat} (h : RR T PF PS C rc g pp bn sc s tl n q) : s 1 = nI q := h.2.2.2.1
theorem RR.q10 {T PF PS : Nat → Option Nat} {C : Nat → Nat → Int32} {rc g pp bn sc s : Nat → Int32} {tl : List zC} {n q : Nat} (h : RR T PF PS C rc g pp bn sc s tl n q) : q ≤ 10 := h.2.2.2.2.1
theorem RR.cq {T PF PS : Nat → Option Nat} {C : Nat → Nat → Int32} {rc g pp bn sc s : Nat → Int32} {tl : List zC} {n q : Nat} (h : RR T PF PS C rc g pp bn sc s tl n q) : sc 1 = nI q := h.2.2.2.2.2.1
theorem RR.c2 {T PF PS : Nat → Option Nat} {C : Nat → Nat → Int32} {rc g pp bn sc s : Nat → Int32} {tl : List zC} {n q : Nat} (h : RR T PF PS C rc g pp bn sc s tl n q) : sc 2 = s 3 := h.2.2.2.2.2.2.1
theorem RR.c3 {T PF PS : Nat → Option Nat} {C : Nat → Nat → Int32} {rc g pp bn sc s : Nat → Int32} {tl : List zC} {n q : Nat} (h : RR T PF PS C rc g pp bn sc s tl n q) : sc 3 = s 2 := h.2.2.2.2.2.2.2.1
theorem RR.b01 {T PF PS : Nat → Option Nat} {C : Nat → Nat → Int32} {rc g pp bn sc s : Nat → Int32} {tl : List zC} {n q : Nat} (h : RR T PF PS C rc g pp bn sc s tl n q) : s 2 = 0 ∨ s 2 = 1 := h.2.2.2.2.2.2.2.2.1
theorem RR.cg {T PF PS : Nat → Option Nat} {C : Nat → Nat → Int32} {rc g pp bn sc s : Nat → Int32} {tl : List zC} {n q : Nat} (h : RR T PF PS C rc g pp bn sc s tl n q) : ∀ w, w < 2 → g w = s (4 + w) := h.2.2.2.2.2.2.2.2.2.1
theorem RR.cC {T PF PS : Nat → Option Nat} {C : Nat → Nat → Int32} {rc g pp bn sc s : Nat → Int32} {tl : List zC} {n q : Nat} (h : RR T PF PS C rc g pp bn sc s tl n q) : ∀ l k, l < 6 → k < 7 → C l k = s (186 + 8 * l + k) := h.2.2.2.2.2.2.2.2.2.2.1
theorem RR.crc {T PF PS : Nat → Option Nat} {C : Nat → Nat → Int32} {rc g pp bn sc s : Nat → Int32} {tl : List zC} {n q : Nat} (h : RR T PF PS C rc g pp bn sc s tl n q) : ∀ l, l < 6 → rc l = s (186 + 8 * l + 7) := h.2.2.2.2.2.2.2.2.2.2.2.1
theorem RR.cpp {T PF PS : Nat → Option Nat} {C : Nat → Nat → Int32} {rc g pp bn sc s : Nat → Int32} {tl : List zC} {n q : Nat} (h : RR T PF PS C rc g pp bn sc s tl n q) : ∀ r, r < 10 → pp r = s (254 + r) := h.2.2.2.2.2.2.2.2.2.2.2.2.1
theorem RR.cbn {T PF PS : Nat → Option Nat} {C : Nat → Nat → Int32} {rc g pp bn sc s : Nat → Int32} {tl : List zC} {n q : Nat} (h : RR T PF PS C rc g pp bn sc s tl n q) : ∀ j, j < 4 → bn j = s (264 + j) := h.2.2.2.2.2.2.2.2.2.2.2.2.2.1
theorem RR.tt {T PF PS : Nat → Option Nat} {C : Nat → Nat → Int32} {rc g pp bn sc s : Nat → Int32} {tl : List zC} {n q : Nat} (h : RR T PF PS C rc g pp bn sc s tl n q) : TT tl T s n := h.2.2.2.2.2.2.2.2.2.2.2.2.2.2.1
theorem RR.pf {T PF PS : Nat → Option Nat} {C : Nat → Nat → Int32} {rc g pp bn sc s : Nat → Int32} {tl : List zC} {n q : Nat} (h : RR T PF PS C rc g pp bn sc s tl n q) : ∀ k, k < q → PF k = T (ix (s (234 + 2 * k))) ∧ PS k = T (ix (s (234 + 2 * k + 1))) := h.2.2.2.2.2.2.2.2.2.2.2.2.2.2.2.1
theorem RR.pr {T PF PS : Nat → Option Nat} {C : Nat → Nat → Int32} {rc g pp bn sc s : Nat → Int32} {tl : List zC} {n q : Nat} (h : RR T PF PS C rc g pp bn sc s tl n q) : PR s q n := h.2.2.2.2.2.2.2.2.2.2.2.2.2.2.2.2.1
theorem RR.pn {T PF PS : Nat → Option Nat} {C : Nat → Nat → Int32} {rc g pp bn sc s : Nat → Int32} {tl : List zC} {n q : Nat} (h : RR T PF PS C rc g pp bn sc s tl n q) : ∀ k, q ≤ k → k < 10 → PF k = none ∧ PS k = none := h.2.2.2.2.2.2.2.2.2.2.2.2.2.2.2.2.2.1
theorem RR.rg {T PF PS : Nat → Option Nat} {C : Nat → Nat → Int32} {rc g pp bn sc s : Nat → Int32} {tl : List zC} {n q : Nat} (h : RR T PF PS C rc g pp bn sc s tl n q) : RGS s n := h.2.2.2.2.2.2.2.2.2.2.2.2.2.2.2.2.2.2
theorem RR.mk {T PF PS : Nat → Option Nat} {C : Nat → Nat → Int32} {rc g pp bn sc s : Nat → Int32} {tl : List zC} {n q : Nat} (h0 : s 0 = nI n) (h1 : n ≤ 30) (h2 : sc 0 = nI n) (h3 : s 1 = nI q) (h4 : q ≤ 10) (h5 : sc 1 = nI q) (h6 : sc 2 = s 3) (h7 : sc 3 = s 2) (h8 : s 2 = 0 ∨ s 2 = 1) (h9 : ∀ w, w < 2 → g w = s (4 + w)) (h10 : ∀ l k, l < 6 → k < 7 → C l k = s (186 + 8 * l + k)) (h11 : ∀ l, l < 6 → rc l = s (186 + 8 * l + 7)) (h12 : ∀ r, r < 10 → pp r = s (254 + r)) (h13 : ∀ j, j < 4 → bn j = s (264 + j)) (h14 : TT tl T s n) (h15 : ∀ k, k < q → PF k = T (ix (s (234 + 2 * k))) ∧ PS k = T (ix (s (234 + 2 * k + 1)))) (h16 : PR s q n) (h17 : ∀ k, q ≤ k → k < 10 → PF k = none ∧ PS k = none) (h18 : RGS s n) : RR T PF PS C rc g pp bn sc s tl n q := ⟨h0, h1, h2, h3, h4, h5, h6, h7, h8, h9, h10, h11, h12, h13, h14, h15, h16, h17, h18⟩
theorem NT.pos {m : Nat} {v : Int32} (h : NT m v) (hm : m < 2 ^ 31 := by decide) : ¬ v < 0 := by
  obtain ⟨x, rfl, hx⟩ := h
  exact nI_pos (by omega)
theorem NT.ne9 {m : Nat} {v : Int32} (h : NT m v) (hm : m < 2 ^ 31 := by decide) : ¬ v = -9 := fun e => by
  have := h.pos hm
  rw [e] at this
  exact this (by decide)
theorem GP.iff {m : Nat} {v : Int32} (h : GP m v) (hm : m < 2 ^ 31 := by decide) : v = -9 ↔ v < 0 := by
  refine ⟨fun e => by rw [e]; decide, fun e => ?_⟩
  rcases h with h | h
  · exact h
  · exact absurd e (h.pos hm)
theorem NT.ix {m : Nat} {v : Int32} (h : NT m v) (hm : m < 2 ^ 31 := by decide) : v = nI (ix v) ∧ ix v ≤ m := by
  obtain ⟨x, rfl, hx⟩ := h
  have : (nI x).toNatClampNeg = x := nI_clamp (by omega)
  exact ⟨by show nI x = nI (nI x).toNatClampNeg; rw [this], by show (nI x).toNatClampNeg ≤ m; rw [this]; exact hx⟩
theorem RGS.gy {s : Nat → Int32} {n : Nat} (h : RGS s n) {t w : Nat} (ht : t < n) (hw : w < 2) : ∃ d, 1 ≤ d ∧ d ≤ 5050 ∧ 100 + s (4 + w) * s (6 + 6 * t + 4) = nI d := by
  obtain ⟨x, e1, h1⟩ := h.gr w hw
  obtain ⟨y, e2, h2⟩ := h.ty t ht
  refine ⟨100 + x * y, by omega, ?_, ?_⟩
  · have : x * y ≤ 50 * 99 := Nat.mul_le_mul h1 h2
    omega
  · rw [e1, e2, show (100 : Int32) = nI 100 from rfl, pk_mul, nI_add]
theorem RGS.nz {s : Nat → Int32} {n : Nat} (h : RGS s n) : NZ s n := fun t ht w hw => by
  obtain ⟨d, h1, h2, e⟩ := h.gy ht hw
  rw [e]
  exact nI_ne0 h1 (by omega)
theorem RGS.rgs {s : Nat → Int32} {n : Nat} (h : RGS s n) : RG s := fun l hl => (h.rc l hl).ix
theorem gp_ite {α : Type} {v : Int32} {m : Nat} (h : GP m v) (a b : α) (hm : m < 2 ^ 31 := by decide) : (if v = -9 then a else b) = if v < 0 then a else b := by
  by_cases e : v = -9
  · rw [if_pos e, if_pos ((h.iff hm).mp e)]
  · rw [if_neg e, if_neg (fun q => e ((h.iff hm).mpr q))]
theorem wt_eq {sc mk yr ak : Int32} (h : GP 999 sc) : wtC sc mk yr ak = wtV sc mk yr ak := by
  unfold wtC wtV
  rw [gp_ite h]
theorem rn_eq {v g y : Int32} {d : Nat} (h : GP 999 v) (e : 100 + g * y = nI d) (hd : 1 ≤ d) (hd2 : d ≤ 5050) : rnC v g y = rtV v g y := by
  unfold rnC rtV
  rw [gp_ite h, e, if_neg (show ¬ nI d < 1 from nI_nlt (a := d) (b := 1) hd (by omega))]
theorem rt_gp {v g y : Int32} {d : Nat} (h : GP 999 v) (e : 100 + g * y = nI d) (hd : 1 ≤ d) (hd2 : d ≤ 5050) : (rtV v g y = -9 ↔ v < 0) := by
  unfold rtV
  rcases h with h | ⟨x, h, hx⟩
  · rw [h]; simp
  · rw [h, e, if_neg (nI_pos (by omega)), show (100 : Int32) = nI 100 from rfl, pk_mul, pk_div (by omega) hd (by omega)]
    have hq : 100 * x / d ≤ 100 * x := Nat.div_le_self _ _
    refine ⟨fun q => absurd q (NT.ne9 (m := 99900) ⟨_, rfl, by omega⟩), fun q => absurd q (nI_pos (by omega))⟩
theorem ite_iff {α : Type} {a b : Prop} [Decidable a] [Decidable b] {x y x' y' : α} (h : a ↔ b) (h1 : x = x') (h2 : y = y') : (if a then x else y) = if b then x' else y' := by
  subst h1; subst h2
  by_cases q : a
  · rw [if_pos q, if_pos (h.mp q)]
  · rw [if_neg q, if_neg (fun z => q (h.mpr z))]
theorem ite_orB {a : Prop} [Decidable a] {b : Bool} {x y : Int32} : (if (decide a || b) = true then x else y) = if a then x else if b = true then x else y := by
  by_cases h : a <;> cases b <;> simp [h]
theorem ite_orD {a b : Prop} [Decidable a] [Decidable b] {x y : Int32} : (if (decide a || decide b) = true then x else y) = if a then x else if b then x else y := by
  by_cases h : a <;> by_cases h2 : b <;> simp [h, h2]
theorem mts_0 {s : Nat → Int32} {t l : Nat} : mts s t l 0 = (decide (s (6 + 6 * t + 0) < 0) || decide (s (186 + 8 * l + 0) ≤ hvV s t 0)) := rfl
theorem mts_1 {s : Nat → Int32} {t l : Nat} : mts s t l 1 = (decide (s (6 + 6 * t + 0) < 0) || decide (hvV s t 0 ≤ s (186 + 8 * l + 1))) := rfl
theorem mts_2 {s : Nat → Int32} {t l : Nat} : mts s t l 2 = (decide (s (6 + 6 * t + 1) < 0) || decide (s (186 + 8 * l + 2) ≤ hvV s t 1)) := rfl
theorem mts_3 {s : Nat → Int32} {t l : Nat} : mts s t l 3 = (decide (s (6 + 6 * t + 1) < 0) || decide (hvV s t 1 ≤ s (186 + 8 * l + 3))) := rfl
theorem mts_4 {s : Nat → Int32} {t l : Nat} : mts s t l 4 = (decide (s (6 + 6 * t + 2) < 0) || mkd (s (186 + 8 * l + 4)) (s (6 + 6 * t + 2))) := rfl
theorem mts_5 {s : Nat → Int32} {t l : Nat} : mts s t l 5 = decide (s (186 + 8 * l + 5) &&& (s (6 + 6 * t + 3) ^^^ -1) = 0) := rfl
theorem mts_6 {s : Nat → Int32} {t l : Nat} : mts s t l 6 = decide (s (186 + 8 * l + 6) &&& s (6 + 6 * t + 3) = 0) := rfl
/-- the seven conditions as bits -/
def bt7 (b : Nat → Bool) : Int32 := ((((((((if b 0 = true then (0 : Int32) else 1) ||| (if b 1 = true then 0 else 2)) ||| (if b 2 = true then 0 else 4)) ||| (if b 3 = true then 0 else 8)) ||| (if b 4 = true then 0 else 16)) ||| (if b 5 = true then 0 else 32)) ||| (if b 6 = true then 0 else 64)))
section
variable {T PF PS : Nat → Option Nat} {C : Nat → Nat → Int32} {rc g pp bn sc s : Nat → Int32} {tl : List zC} {n q : Nat}
theorem hd_eq (I : RR T PF PS C rc g pp bn sc s tl n q) {t w : Nat} (ht : t < n) (hw : w < 2) : hdC (sc 3) (s (6 + 6 * t + w)) (g w) (s (6 + 6 * t + 4)) = hvV s t w := by
  unfold hdC hvV
  rw [I.c3, I.cg w hw]
  rcases I.b01 with h | h
  · rw [h, if_pos rfl, if_neg (by decide)]
  · rw [h, if_neg (by decide), if_pos rfl]
    obtain ⟨d, h1, h2, e⟩ := I.rg.gy ht hw
    exact rn_eq (I.rg.tz t ht w hw) e h1 h2
theorem hv_gp (I : RR T PF PS C rc g pp bn sc s tl n q) {t w : Nat} (ht : t < n) (hw : w < 2) : hvV s t w = -9 ↔ s (6 + 6 * t + w) < 0 := by
  unfold hvV
  by_cases h : s 2 = 1
  · rw [if_pos h]
    obtain ⟨d, h1, h2, e⟩ := I.rg.gy ht hw
    exact rt_gp (I.rg.tz t ht w hw) e h1 h2
  · rw [if_neg h]
    exact (I.rg.tz t ht w hw).iff
theorem bk_eq (I : RR T PF PS C rc g pp bn sc s tl n q) {t l : Nat} (ht : t < n) (hl : l < 6) : bk C g (sc 3) s t l = bt7 (mts s t l) := by
  unfold bk
  rw [hd_eq I ht (by decide : 0 < 2), hd_eq I ht (by decide : 1 < 2)]
  have h0 := hv_gp I ht (by decide : 0 < 2)
  have h1 := hv_gp I ht (by decide : 1 < 2)
  have h2 := (I.rg.tc t ht).iff
  unfold lb0 lb2 lb4 lb5 lb6 bt7
  rw [I.cC l 0 hl (by decide), I.cC l 1 hl (by decide), I.cC l 2 hl (by decide), I.cC l 3 hl (by decide), I.cC l 4 hl (by decide), I.cC l 5 hl (by decide), I.cC l 6 hl (by decide)]
  have e0 : (if mts s t l 0 = true then (0 : Int32) else 1) = if hvV s t 0 = -9 then 0 else if s (186 + 8 * l + 0) ≤ hvV s t 0 then 0 else 1 := by
    rw [mts_0, ite_orD]; exact (ite_iff h0 rfl rfl).symm
  have e1 : (if mts s t l 1 = true then (0 : Int32) else 2) = if hvV s t 0 = -9 then 0 else if hvV s t 0 ≤ s (186 + 8 * l + 1) then 0 else 2 := by
    rw [mts_1, ite_orD]; exact (ite_iff h0 rfl rfl).symm
  have e2 : (if mts s t l 2 = true then (0 : Int32) else 4) = if hvV s t 1 = -9 then 0 else if s (186 + 8 * l + 2) ≤ hvV s t 1 then 0 else 4 := by
    rw [mts_2, ite_orD]; exact (ite_iff h1 rfl rfl).symm
  have e3 : (if mts s t l 3 = true then (0 : Int32) else 8) = if hvV s t 1 = -9 then 0 else if hvV s t 1 ≤ s (186 + 8 * l + 3) then 0 else 8 := by
    rw [mts_3, ite_orD]; exact (ite_iff h1 rfl rfl).symm
  have e4 : (if mts s t l 4 = true then (0 : Int32) else 16) = if s (6 + 6 * t + 2) = -9 then 0 else if mkd (s (186 + 8 * l + 4)) (s (6 + 6 * t + 2)) = true then 0 else 16 := by
    rw [mts_4, ite_orB]; exact (ite_iff h2 rfl rfl).symm
  have e5 : (if mts s t l 5 = true then (0 : Int32) else 32) = if s (186 + 8 * l + 5) &&& (s (6 + 6 * t + 3) ^^^ -1) = 0 then 0 else 32 := by
    rw [mts_5]; exact ite_iff decide_eq_true_iff rfl rfl
  have e6 : (if mts s t l 6 = true then (0 : Int32) else 64) = if s (186 + 8 * l + 6) &&& s (6 + 6 * t + 3) = 0 then 0 else 64 := by
    rw [mts_6]; exact ite_iff decide_eq_true_iff rfl rfl
  rw [e0, e1, e2, e3, e4, e5, e6]
  by_cases a0 : hvV s t 0 = -9 <;> by_cases a1 : hvV s t 1 = -9 <;> by_cases a2 : s (6 + 6 * t + 2) = -9 <;> by_cases a3 : mkd (s (186 + 8 * l + 4)) (s (6 + 6 * t + 2)) = true <;> simp only [a0, a1, a2, a3, if_true, if_false, Int32.or_zero, Int32.zero_or] <;> rfl
end
theorem Int32.or_and_zero {a b c : Int32} : (a ||| b) &&& c = 0 ↔ a &&& c = 0 ∧ b &&& c = 0 := by
  rw [← Int32.toBitVec_inj, ← Int32.toBitVec_inj, ← Int32.toBitVec_inj]
  simp only [Int32.toBitVec_and, Int32.toBitVec_or, Int32.toBitVec_zero]
  rw [BitVec.and_or_distrib_right, BitVec.or_eq_zero_iff]
theorem bt7_set {b : Nat → Bool} {x : Nat} (hx : x < 128) : bt7 b &&& (nI x ^^^ -1) = 0 ↔ ∀ k, k < 7 → (nI x >>> (nI k &&& 31)) &&& 1 = 0 → b k = true := by
  have key : ∀ x, x < 128 → ∀ k, k < 7 → ((1 <<< (nI k &&& 31)) &&& (nI x ^^^ -1) = 0 ↔ ¬ (nI x >>> (nI k &&& 31)) &&& 1 = 0) := by decide +kernel
  unfold bt7
  simp only [Int32.or_and_zero]
  have one : ∀ k (c : Int32), k < 7 → c = 1 <<< (nI k &&& 31) → ((if b k = true then 0 else c) &&& (nI x ^^^ -1) = 0 ↔ ((nI x >>> (nI k &&& 31)) &&& 1 = 0 → b k = true)) := by
    intro k c hk hc
    by_cases h : b k = true
    · rw [if_pos h]
      exact ⟨fun _ _ => h, fun _ => Int32.zero_and⟩
    · rw [if_neg h, hc, key x hx k hk]
      exact ⟨fun q z => absurd z q, fun q z => h (q z)⟩
  rw [one 0 1 (by decide) (by decide), one 1 2 (by decide) (by decide), one 2 4 (by decide) (by decide), one 3 8 (by decide) (by decide), one 4 16 (by decide) (by decide), one 5 32 (by decide) (by decide), one 6 64 (by decide) (by decide)]
  constructor
  · rintro ⟨⟨⟨⟨⟨⟨h0, h1⟩, h2⟩, h3⟩, h4⟩, h5⟩, h6⟩ k hk
    rcases (show k = 0 ∨ k = 1 ∨ k = 2 ∨ k = 3 ∨ k = 4 ∨ k = 5 ∨ k = 6 by omega) with rfl | rfl | rfl | rfl | rfl | rfl | rfl <;> assumption
  · intro h
    exact ⟨⟨⟨⟨⟨⟨h 0 (by decide), h 1 (by decide)⟩, h 2 (by decide)⟩, h 3 (by decide)⟩, h 4 (by decide)⟩, h 5 (by decide)⟩, h 6 (by decide)⟩
section
variable {T PF PS : Nat → Option Nat} {C : Nat → Nat → Int32} {rc g pp bn sc s : Nat → Int32} {tl : List zC} {n q : Nat}
theorem bk_set (I : RR T PF PS C rc g pp bn sc s tl n q) {t l x : Nat} (ht : t < n) (hl : l < 6) (hx : x < 128) : bk C g (sc 3) s t l &&& (nI x ^^^ -1) = 0 ↔ fit s t l (nI x) = true := by
  rw [bk_eq I ht hl, bt7_set hx, fit_iff]
theorem bk_fit (I : RR T PF PS C rc g pp bn sc s tl n q) {t l : Nat} (ht : t < n) (hl : l < 6) : bk C g (sc 3) s t l = 0 ↔ fit s t l 0 = true := by
  have h := bk_set I ht hl (show 0 < 128 by decide)
  rw [show nI 0 ^^^ -1 = -1 by decide, Int32.and_neg_one] at h
  exact h
theorem lf_eq (I : RR T PF PS C rc g pp bn sc s tl n q) {t : Nat} (ht : t < n) : lf C g (sc 3) s t = lwTo s t 6 := by
  unfold lf
  have : ∀ i, i ≤ 6 → lfC C (fun k => s (6 + 6 * t + k)) (hdC (sc 3) (s (6 + 6 * t + 0)) (g 0) (s (6 + 6 * t + 4))) (hdC (sc 3) (s (6 + 6 * t + 1)) (g 1) (s (6 + 6 * t + 4))) i = lwTo s t i := by
    intro i
    induction i with
    | zero => intro _; rfl
    | succ i ih =>
      intro hi
      simp only [lfC, lwTo]
      rw [ih (by omega)]
      by_cases h : fit s t i 0 = true
      · rw [if_pos h]; exact if_pos (show bk C g (sc 3) s t i = 0 from (bk_fit I ht (by omega)).mpr h)
      · rw [if_neg h, Int32.or_zero]; exact if_neg (show ¬ bk C g (sc 3) s t i = 0 from fun q => h ((bk_fit I ht (by omega)).mp q))
  exact this 6 (Nat.le_refl _)
end
theorem sm_congr {f g : Nat → Int32} {n : Nat} (h : ∀ i, i < n → f i = g i) : sm f n = sm g n := by
  induction n with
  | zero => rfl
  | succ n ih =>
    simp only [sm]
    rw [ih (fun i hi => h i (by omega)), h n (by omega)]
