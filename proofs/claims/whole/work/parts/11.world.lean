/-! THE WORLD: places 0 .. 44 the class under proof, 45 .. 50 the reference, from 51 on the Tellings -/
abbrev zR : Type := (Nat → Option Nat) × (Nat → Nat → Int32) × (Nat → Int32) × (Nat → Option Nat) × (Nat → Option Nat) × (Nat → Int32) × (Nat → Int32) × (Nat → Int32) × (Nat → Int32)
abbrev zU : Type := (Nat → Int32) × (Nat → Int32) × (Nat → Int32) × (Nat → Int32) × (Nat → Int32) × (Nat → Int32)
abbrev zKK : Type := Int32 × (Nat → Int32) × (Nat → Int32) × zR × zR × (Nat → Int32) × (Nat → Int32)
def lrow (b : Nat) : Nat → Option Nat := fun j => if j < 6 then some (b + 2 * j) else none
noncomputable def wld (K : zKK) (u : zU) (tl : List zC) : List zC := .inr (.inr (10, [.ref 1, .ref 3, .ref 23, .ref 43, .ref 44, .int (K.1)])) :: .inr (.inr (7, [.ref 2, .int (K.2.1 0), .int (K.2.1 1), .int (K.2.1 2), .int (K.2.1 3), .int (K.2.1 4), .int (K.2.1 5), .int (K.2.1 6), .int (K.2.1 7)])) :: .inl (24, K.2.2.1) :: .inr (.inr (6, [.ref 4, .ref 5, .ref 18, .ref 19, .ref 20, .ref 21, .ref 22, .int (K.2.2.2.1.2.2.2.2.2.2.2.2 0), .int (K.2.2.2.1.2.2.2.2.2.2.2.2 1), .int (K.2.2.2.1.2.2.2.2.2.2.2.2 2), .int (K.2.2.2.1.2.2.2.2.2.2.2.2 3)])) :: .inr (.inl (1, 30, K.2.2.2.1.1)) :: .inr (.inl (0, 6, lrow 6)) :: .inr (.inr (4, [.ref 7, .int (K.2.2.2.1.2.2.1 0)])) :: .inl (7, K.2.2.2.1.2.1 0) :: .inr (.inr (4, [.ref 9, .int (K.2.2.2.1.2.2.1 1)])) :: .inl (7, K.2.2.2.1.2.1 1) :: .inr (.inr (4, [.ref 11, .int (K.2.2.2.1.2.2.1 2)])) :: .inl (7, K.2.2.2.1.2.1 2) :: .inr (.inr (4, [.ref 13, .int (K.2.2.2.1.2.2.1 3)])) :: .inl (7, K.2.2.2.1.2.1 3) :: .inr (.inr (4, [.ref 15, .int (K.2.2.2.1.2.2.1 4)])) :: .inl (7, K.2.2.2.1.2.1 4) :: .inr (.inr (4, [.ref 17, .int (K.2.2.2.1.2.2.1 5)])) :: .inl (7, K.2.2.2.1.2.1 5) :: .inr (.inl (1, 10, K.2.2.2.1.2.2.2.1)) :: .inr (.inl (1, 10, K.2.2.2.1.2.2.2.2.1)) :: .inl (2, K.2.2.2.1.2.2.2.2.2.1) :: .inl (10, K.2.2.2.1.2.2.2.2.2.2.1) :: .inr (.inr (0, [.int (K.2.2.2.1.2.2.2.2.2.2.2.1 0), .int (K.2.2.2.1.2.2.2.2.2.2.2.1 1), .int (K.2.2.2.1.2.2.2.2.2.2.2.1 2), .int (K.2.2.2.1.2.2.2.2.2.2.2.1 3)])) :: .inr (.inr (6, [.ref 24, .ref 25, .ref 38, .ref 39, .ref 40, .ref 41, .ref 42, .int (K.2.2.2.2.1.2.2.2.2.2.2.2.2 0), .int (K.2.2.2.2.1.2.2.2.2.2.2.2.2 1), .int (K.2.2.2.2.1.2.2.2.2.2.2.2.2 2), .int (K.2.2.2.2.1.2.2.2.2.2.2.2.2 3)])) :: .inr (.inl (1, 30, K.2.2.2.2.1.1)) :: .inr (.inl (0, 6, lrow 26)) :: .inr (.inr (4, [.ref 27, .int (K.2.2.2.2.1.2.2.1 0)])) :: .inl (7, K.2.2.2.2.1.2.1 0) :: .inr (.inr (4, [.ref 29, .int (K.2.2.2.2.1.2.2.1 1)])) :: .inl (7, K.2.2.2.2.1.2.1 1) :: .inr (.inr (4, [.ref 31, .int (K.2.2.2.2.1.2.2.1 2)])) :: .inl (7, K.2.2.2.2.1.2.1 2) :: .inr (.inr (4, [.ref 33, .int (K.2.2.2.2.1.2.2.1 3)])) :: .inl (7, K.2.2.2.2.1.2.1 3) :: .inr (.inr (4, [.ref 35, .int (K.2.2.2.2.1.2.2.1 4)])) :: .inl (7, K.2.2.2.2.1.2.1 4) :: .inr (.inr (4, [.ref 37, .int (K.2.2.2.2.1.2.2.1 5)])) :: .inl (7, K.2.2.2.2.1.2.1 5) :: .inr (.inl (1, 10, K.2.2.2.2.1.2.2.2.1)) :: .inr (.inl (1, 10, K.2.2.2.2.1.2.2.2.2.1)) :: .inl (2, K.2.2.2.2.1.2.2.2.2.2.1) :: .inl (10, K.2.2.2.2.1.2.2.2.2.2.2.1) :: .inr (.inr (0, [.int (K.2.2.2.2.1.2.2.2.2.2.2.2.1 0), .int (K.2.2.2.2.1.2.2.2.2.2.2.2.1 1), .int (K.2.2.2.2.1.2.2.2.2.2.2.2.1 2), .int (K.2.2.2.2.1.2.2.2.2.2.2.2.1 3)])) :: .inl (7, K.2.2.2.2.2.1) :: .inl (30, K.2.2.2.2.2.2) :: .inr (.inr (11, [.ref 46, .ref 47, .ref 48, .int (u.2.2.2.2.2 0), .ref 49, .ref 50, .int (u.2.2.2.2.2 1), .int (u.2.2.2.2.2 2)])) :: .inl (7, u.1) :: .inl (268, u.2.1) :: .inl (268, u.2.2.1) :: .inl (24, u.2.2.2.1) :: .inl (6, u.2.2.2.2.1) :: tl
theorem wl_0 {K : zKK} {u : zU} {tl : List zC} : (wld K u tl)[0]? = some (.inr (.inr (10, [.ref 1, .ref 3, .ref 23, .ref 43, .ref 44, .int (K.1)]))) := rfl
theorem wl_1 {K : zKK} {u : zU} {tl : List zC} : (wld K u tl)[1]? = some (.inr (.inr (7, [.ref 2, .int (K.2.1 0), .int (K.2.1 1), .int (K.2.1 2), .int (K.2.1 3), .int (K.2.1 4), .int (K.2.1 5), .int (K.2.1 6), .int (K.2.1 7)]))) := rfl
theorem wl_2 {K : zKK} {u : zU} {tl : List zC} : (wld K u tl)[2]? = some (.inl (24, K.2.2.1)) := rfl
theorem wl_3 {K : zKK} {u : zU} {tl : List zC} : (wld K u tl)[3]? = some (.inr (.inr (6, [.ref 4, .ref 5, .ref 18, .ref 19, .ref 20, .ref 21, .ref 22, .int (K.2.2.2.1.2.2.2.2.2.2.2.2 0), .int (K.2.2.2.1.2.2.2.2.2.2.2.2 1), .int (K.2.2.2.1.2.2.2.2.2.2.2.2 2), .int (K.2.2.2.1.2.2.2.2.2.2.2.2 3)]))) := rfl
theorem wl_4 {K : zKK} {u : zU} {tl : List zC} : (wld K u tl)[4]? = some (.inr (.inl (1, 30, K.2.2.2.1.1))) := rfl
theorem wl_5 {K : zKK} {u : zU} {tl : List zC} : (wld K u tl)[5]? = some (.inr (.inl (0, 6, lrow 6))) := rfl
theorem wl_6 {K : zKK} {u : zU} {tl : List zC} : (wld K u tl)[6]? = some (.inr (.inr (4, [.ref 7, .int (K.2.2.2.1.2.2.1 0)]))) := rfl
theorem wl_7 {K : zKK} {u : zU} {tl : List zC} : (wld K u tl)[7]? = some (.inl (7, K.2.2.2.1.2.1 0)) := rfl
theorem wl_8 {K : zKK} {u : zU} {tl : List zC} : (wld K u tl)[8]? = some (.inr (.inr (4, [.ref 9, .int (K.2.2.2.1.2.2.1 1)]))) := rfl
theorem wl_9 {K : zKK} {u : zU} {tl : List zC} : (wld K u tl)[9]? = some (.inl (7, K.2.2.2.1.2.1 1)) := rfl
theorem wl_10 {K : zKK} {u : zU} {tl : List zC} : (wld K u tl)[10]? = some (.inr (.inr (4, [.ref 11, .int (K.2.2.2.1.2.2.1 2)]))) := rfl
theorem wl_11 {K : zKK} {u : zU} {tl : List zC} : (wld K u tl)[11]? = some (.inl (7, K.2.2.2.1.2.1 2)) := rfl
theorem wl_12 {K : zKK} {u : zU} {tl : List zC} : (wld K u tl)[12]? = some (.inr (.inr (4, [.ref 13, .int (K.2.2.2.1.2.2.1 3)]))) := rfl
theorem wl_13 {K : zKK} {u : zU} {tl : List zC} : (wld K u tl)[13]? = some (.inl (7, K.2.2.2.1.2.1 3)) := rfl
theorem wl_14 {K : zKK} {u : zU} {tl : List zC} : (wld K u tl)[14]? = some (.inr (.inr (4, [.ref 15, .int (K.2.2.2.1.2.2.1 4)]))) := rfl
theorem wl_15 {K : zKK} {u : zU} {tl : List zC} : (wld K u tl)[15]? = some (.inl (7, K.2.2.2.1.2.1 4)) := rfl
theorem wl_16 {K : zKK} {u : zU} {tl : List zC} : (wld K u tl)[16]? = some (.inr (.inr (4, [.ref 17, .int (K.2.2.2.1.2.2.1 5)]))) := rfl
theorem wl_17 {K : zKK} {u : zU} {tl : List zC} : (wld K u tl)[17]? = some (.inl (7, K.2.2.2.1.2.1 5)) := rfl
theorem wl_18 {K : zKK} {u : zU} {tl : List zC} : (wld K u tl)[18]? = some (.inr (.inl (1, 10, K.2.2.2.1.2.2.2.1))) := rfl
theorem wl_19 {K : zKK} {u : zU} {tl : List zC} : (wld K u tl)[19]? = some (.inr (.inl (1, 10, K.2.2.2.1.2.2.2.2.1))) := rfl
theorem wl_20 {K : zKK} {u : zU} {tl : List zC} : (wld K u tl)[20]? = some (.inl (2, K.2.2.2.1.2.2.2.2.2.1)) := rfl
theorem wl_21 {K : zKK} {u : zU} {tl : List zC} : (wld K u tl)[21]? = some (.inl (10, K.2.2.2.1.2.2.2.2.2.2.1)) := rfl
theorem wl_22 {K : zKK} {u : zU} {tl : List zC} : (wld K u tl)[22]? = some (.inr (.inr (0, [.int (K.2.2.2.1.2.2.2.2.2.2.2.1 0), .int (K.2.2.2.1.2.2.2.2.2.2.2.1 1), .int (K.2.2.2.1.2.2.2.2.2.2.2.1 2), .int (K.2.2.2.1.2.2.2.2.2.2.2.1 3)]))) := rfl
theorem wl_23 {K : zKK} {u : zU} {tl : List zC} : (wld K u tl)[23]? = some (.inr (.inr (6, [.ref 24, .ref 25, .ref 38, .ref 39, .ref 40, .ref 41, .ref 42, .int (K.2.2.2.2.1.2.2.2.2.2.2.2.2 0), .int (K.2.2.2.2.1.2.2.2.2.2.2.2.2 1), .int (K.2.2.2.2.1.2.2.2.2.2.2.2.2 2), .int (K.2.2.2.2.1.2.2.2.2.2.2.2.2 3)]))) := rfl
theorem wl_24 {K : zKK} {u : zU} {tl : List zC} : (wld K u tl)[24]? = some (.inr (.inl (1, 30, K.2.2.2.2.1.1))) := rfl
theorem wl_25 {K : zKK} {u : zU} {tl : List zC} : (wld K u tl)[25]? = some (.inr (.inl (0, 6, lrow 26))) := rfl
theorem wl_26 {K : zKK} {u : zU} {tl : List zC} : (wld K u tl)[26]? = some (.inr (.inr (4, [.ref 27, .int (K.2.2.2.2.1.2.2.1 0)]))) := rfl
theorem wl_27 {K : zKK} {u : zU} {tl : List zC} : (wld K u tl)[27]? = some (.inl (7, K.2.2.2.2.1.2.1 0)) := rfl
theorem wl_28 {K : zKK} {u : zU} {tl : List zC} : (wld K u tl)[28]? = some (.inr (.inr (4, [.ref 29, .int (K.2.2.2.2.1.2.2.1 1)]))) := rfl
theorem wl_29 {K : zKK} {u : zU} {tl : List zC} : (wld K u tl)[29]? = some (.inl (7, K.2.2.2.2.1.2.1 1)) := rfl
theorem wl_30 {K : zKK} {u : zU} {tl : List zC} : (wld K u tl)[30]? = some (.inr (.inr (4, [.ref 31, .int (K.2.2.2.2.1.2.2.1 2)]))) := rfl
theorem wl_31 {K : zKK} {u : zU} {tl : List zC} : (wld K u tl)[31]? = some (.inl (7, K.2.2.2.2.1.2.1 2)) := rfl
theorem wl_32 {K : zKK} {u : zU} {tl : List zC} : (wld K u tl)[32]? = some (.inr (.inr (4, [.ref 33, .int (K.2.2.2.2.1.2.2.1 3)]))) := rfl
theorem wl_33 {K : zKK} {u : zU} {tl : List zC} : (wld K u tl)[33]? = some (.inl (7, K.2.2.2.2.1.2.1 3)) := rfl
theorem wl_34 {K : zKK} {u : zU} {tl : List zC} : (wld K u tl)[34]? = some (.inr (.inr (4, [.ref 35, .int (K.2.2.2.2.1.2.2.1 4)]))) := rfl
theorem wl_35 {K : zKK} {u : zU} {tl : List zC} : (wld K u tl)[35]? = some (.inl (7, K.2.2.2.2.1.2.1 4)) := rfl
theorem wl_36 {K : zKK} {u : zU} {tl : List zC} : (wld K u tl)[36]? = some (.inr (.inr (4, [.ref 37, .int (K.2.2.2.2.1.2.2.1 5)]))) := rfl
theorem wl_37 {K : zKK} {u : zU} {tl : List zC} : (wld K u tl)[37]? = some (.inl (7, K.2.2.2.2.1.2.1 5)) := rfl
theorem wl_38 {K : zKK} {u : zU} {tl : List zC} : (wld K u tl)[38]? = some (.inr (.inl (1, 10, K.2.2.2.2.1.2.2.2.1))) := rfl
theorem wl_39 {K : zKK} {u : zU} {tl : List zC} : (wld K u tl)[39]? = some (.inr (.inl (1, 10, K.2.2.2.2.1.2.2.2.2.1))) := rfl
theorem wl_40 {K : zKK} {u : zU} {tl : List zC} : (wld K u tl)[40]? = some (.inl (2, K.2.2.2.2.1.2.2.2.2.2.1)) := rfl
theorem wl_41 {K : zKK} {u : zU} {tl : List zC} : (wld K u tl)[41]? = some (.inl (10, K.2.2.2.2.1.2.2.2.2.2.2.1)) := rfl
theorem wl_42 {K : zKK} {u : zU} {tl : List zC} : (wld K u tl)[42]? = some (.inr (.inr (0, [.int (K.2.2.2.2.1.2.2.2.2.2.2.2.1 0), .int (K.2.2.2.2.1.2.2.2.2.2.2.2.1 1), .int (K.2.2.2.2.1.2.2.2.2.2.2.2.1 2), .int (K.2.2.2.2.1.2.2.2.2.2.2.2.1 3)]))) := rfl
theorem wl_43 {K : zKK} {u : zU} {tl : List zC} : (wld K u tl)[43]? = some (.inl (7, K.2.2.2.2.2.1)) := rfl
theorem wl_44 {K : zKK} {u : zU} {tl : List zC} : (wld K u tl)[44]? = some (.inl (30, K.2.2.2.2.2.2)) := rfl
theorem wl_45 {K : zKK} {u : zU} {tl : List zC} : (wld K u tl)[45]? = some (.inr (.inr (11, [.ref 46, .ref 47, .ref 48, .int (u.2.2.2.2.2 0), .ref 49, .ref 50, .int (u.2.2.2.2.2 1), .int (u.2.2.2.2.2 2)]))) := rfl
theorem wl_46 {K : zKK} {u : zU} {tl : List zC} : (wld K u tl)[46]? = some (.inl (7, u.1)) := rfl
theorem wl_47 {K : zKK} {u : zU} {tl : List zC} : (wld K u tl)[47]? = some (.inl (268, u.2.1)) := rfl
theorem wl_48 {K : zKK} {u : zU} {tl : List zC} : (wld K u tl)[48]? = some (.inl (268, u.2.2.1)) := rfl
theorem wl_49 {K : zKK} {u : zU} {tl : List zC} : (wld K u tl)[49]? = some (.inl (24, u.2.2.2.1)) := rfl
theorem wl_50 {K : zKK} {u : zU} {tl : List zC} : (wld K u tl)[50]? = some (.inl (6, u.2.2.2.2.1)) := rfl
theorem wl_tl {K : zKK} {u : zU} {tl : List zC} (j : Nat) : (wld K u tl)[51 + j]? = tl[j]? := by
  rw [Nat.add_comm]; rfl
theorem wl_len {K : zKK} {u : zU} {tl : List zC} : (wld K u tl).length = 51 + tl.length := by
  rw [Nat.add_comm]; rfl
theorem wl_law {K : zKK} {u : zU} {tl : List zC} {l : Nat} (hl : l < 6) : (wld K u tl)[6 + 2 * l]? = some (.inr (.inr (4, [.ref (7 + 2 * l), .int (K.2.2.2.1.2.2.1 l)]))) := by
  rcases (show l = 0 ∨ l = 1 ∨ l = 2 ∨ l = 3 ∨ l = 4 ∨ l = 5 by omega) with rfl | rfl | rfl | rfl | rfl | rfl <;> rfl
theorem wl_cond {K : zKK} {u : zU} {tl : List zC} {l : Nat} (hl : l < 6) : (wld K u tl)[7 + 2 * l]? = some (.inl (7, K.2.2.2.1.2.1 l)) := by
  rcases (show l = 0 ∨ l = 1 ∨ l = 2 ∨ l = 3 ∨ l = 4 ∨ l = 5 by omega) with rfl | rfl | rfl | rfl | rfl | rfl <;> rfl
theorem wl_law2 {K : zKK} {u : zU} {tl : List zC} {l : Nat} (hl : l < 6) : (wld K u tl)[26 + 2 * l]? = some (.inr (.inr (4, [.ref (27 + 2 * l), .int (K.2.2.2.2.1.2.2.1 l)]))) := by
  rcases (show l = 0 ∨ l = 1 ∨ l = 2 ∨ l = 3 ∨ l = 4 ∨ l = 5 by omega) with rfl | rfl | rfl | rfl | rfl | rfl <;> rfl
theorem wl_cond2 {K : zKK} {u : zU} {tl : List zC} {l : Nat} (hl : l < 6) : (wld K u tl)[27 + 2 * l]? = some (.inl (7, K.2.2.2.2.1.2.1 l)) := by
  rcases (show l = 0 ∨ l = 1 ∨ l = 2 ∨ l = 3 ∨ l = 4 ∨ l = 5 by omega) with rfl | rfl | rfl | rfl | rfl | rfl <;> rfl
theorem ws_46 {K : zKK} {rf s im mt rd sc : Nat → Int32} {tl : List zC} {f : Nat → Int32} : (wld K (rf, s, im, mt, rd, sc) tl).set 46 (.inl (7, f)) = wld K (f, s, im, mt, rd, sc) tl := by
  unfold wld
  dsimp only
  rfl
theorem ws_47 {K : zKK} {rf s im mt rd sc : Nat → Int32} {tl : List zC} {f : Nat → Int32} : (wld K (rf, s, im, mt, rd, sc) tl).set 47 (.inl (268, f)) = wld K (rf, f, im, mt, rd, sc) tl := by
  unfold wld
  dsimp only
  rfl
theorem ws_48 {K : zKK} {rf s im mt rd sc : Nat → Int32} {tl : List zC} {f : Nat → Int32} : (wld K (rf, s, im, mt, rd, sc) tl).set 48 (.inl (268, f)) = wld K (rf, s, f, mt, rd, sc) tl := by
  unfold wld
  dsimp only
  rfl
theorem ws_49 {K : zKK} {rf s im mt rd sc : Nat → Int32} {tl : List zC} {f : Nat → Int32} : (wld K (rf, s, im, mt, rd, sc) tl).set 49 (.inl (24, f)) = wld K (rf, s, im, f, rd, sc) tl := by
  unfold wld
  dsimp only
  rfl
theorem ws_50 {K : zKK} {rf s im mt rd sc : Nat → Int32} {tl : List zC} {f : Nat → Int32} : (wld K (rf, s, im, mt, rd, sc) tl).set 50 (.inl (6, f)) = wld K (rf, s, im, mt, f, sc) tl := by
  unfold wld
  dsimp only
  rfl
theorem wp_45_3 {K : zKK} {rf s im mt rd sc : Nat → Int32} {tl : List zC} {v : Int32} : (wld K (rf, s, im, mt, rd, sc) tl).set 45 (.inr (.inr (11, List.set [.ref 46, .ref 47, .ref 48, .int (sc 0), .ref 49, .ref 50, .int (sc 1), .int (sc 2)] 3 (.int v)))) = wld K (rf, s, im, mt, rd, upd sc 0 v) tl := by
  unfold wld
  dsimp only
  rfl
theorem wp_45_6 {K : zKK} {rf s im mt rd sc : Nat → Int32} {tl : List zC} {v : Int32} : (wld K (rf, s, im, mt, rd, sc) tl).set 45 (.inr (.inr (11, List.set [.ref 46, .ref 47, .ref 48, .int (sc 0), .ref 49, .ref 50, .int (sc 1), .int (sc 2)] 6 (.int v)))) = wld K (rf, s, im, mt, rd, upd sc 1 v) tl := by
  unfold wld
  dsimp only
  rfl
theorem wp_45_7 {K : zKK} {rf s im mt rd sc : Nat → Int32} {tl : List zC} {v : Int32} : (wld K (rf, s, im, mt, rd, sc) tl).set 45 (.inr (.inr (11, List.set [.ref 46, .ref 47, .ref 48, .int (sc 0), .ref 49, .ref 50, .int (sc 1), .int (sc 2)] 7 (.int v)))) = wld K (rf, s, im, mt, rd, upd sc 2 v) tl := by
  unfold wld
  dsimp only
  rfl
theorem wp_0_5 {tk : Int32} {tp bt rf nt : Nat → Int32} {a b : zR} {u : zU} {tl : List zC} {v : Int32} : (wld (tk, tp, bt, a, b, rf, nt) u tl).set 0 (.inr (.inr (10, List.set [.ref 1, .ref 3, .ref 23, .ref 43, .ref 44, .int tk] 5 (.int v)))) = (wld (v, tp, bt, a, b, rf, nt) u tl) := by
  unfold wld
  dsimp only
  rfl
theorem wp_1_1 {tk : Int32} {tp bt rf nt : Nat → Int32} {a b : zR} {u : zU} {tl : List zC} {v : Int32} : (wld (tk, tp, bt, a, b, rf, nt) u tl).set 1 (.inr (.inr (7, List.set [.ref 2, .int (tp 0), .int (tp 1), .int (tp 2), .int (tp 3), .int (tp 4), .int (tp 5), .int (tp 6), .int (tp 7)] 1 (.int v)))) = (wld (tk, upd tp 0 v, bt, a, b, rf, nt) u tl) := by
  unfold wld
  dsimp only
  rfl
theorem wp_1_2 {tk : Int32} {tp bt rf nt : Nat → Int32} {a b : zR} {u : zU} {tl : List zC} {v : Int32} : (wld (tk, tp, bt, a, b, rf, nt) u tl).set 1 (.inr (.inr (7, List.set [.ref 2, .int (tp 0), .int (tp 1), .int (tp 2), .int (tp 3), .int (tp 4), .int (tp 5), .int (tp 6), .int (tp 7)] 2 (.int v)))) = (wld (tk, upd tp 1 v, bt, a, b, rf, nt) u tl) := by
  unfold wld
  dsimp only
  rfl
theorem wp_1_3 {tk : Int32} {tp bt rf nt : Nat → Int32} {a b : zR} {u : zU} {tl : List zC} {v : Int32} : (wld (tk, tp, bt, a, b, rf, nt) u tl).set 1 (.inr (.inr (7, List.set [.ref 2, .int (tp 0), .int (tp 1), .int (tp 2), .int (tp 3), .int (tp 4), .int (tp 5), .int (tp 6), .int (tp 7)] 3 (.int v)))) = (wld (tk, upd tp 2 v, bt, a, b, rf, nt) u tl) := by
  unfold wld
  dsimp only
  rfl
theorem wp_1_4 {tk : Int32} {tp bt rf nt : Nat → Int32} {a b : zR} {u : zU} {tl : List zC} {v : Int32} : (wld (tk, tp, bt, a, b, rf, nt) u tl).set 1 (.inr (.inr (7, List.set [.ref 2, .int (tp 0), .int (tp 1), .int (tp 2), .int (tp 3), .int (tp 4), .int (tp 5), .int (tp 6), .int (tp 7)] 4 (.int v)))) = (wld (tk, upd tp 3 v, bt, a, b, rf, nt) u tl) := by
  unfold wld
  dsimp only
  rfl
theorem wp_1_5 {tk : Int32} {tp bt rf nt : Nat → Int32} {a b : zR} {u : zU} {tl : List zC} {v : Int32} : (wld (tk, tp, bt, a, b, rf, nt) u tl).set 1 (.inr (.inr (7, List.set [.ref 2, .int (tp 0), .int (tp 1), .int (tp 2), .int (tp 3), .int (tp 4), .int (tp 5), .int (tp 6), .int (tp 7)] 5 (.int v)))) = (wld (tk, upd tp 4 v, bt, a, b, rf, nt) u tl) := by
  unfold wld
  dsimp only
  rfl
theorem wp_1_6 {tk : Int32} {tp bt rf nt : Nat → Int32} {a b : zR} {u : zU} {tl : List zC} {v : Int32} : (wld (tk, tp, bt, a, b, rf, nt) u tl).set 1 (.inr (.inr (7, List.set [.ref 2, .int (tp 0), .int (tp 1), .int (tp 2), .int (tp 3), .int (tp 4), .int (tp 5), .int (tp 6), .int (tp 7)] 6 (.int v)))) = (wld (tk, upd tp 5 v, bt, a, b, rf, nt) u tl) := by
  unfold wld
  dsimp only
  rfl
theorem wp_1_7 {tk : Int32} {tp bt rf nt : Nat → Int32} {a b : zR} {u : zU} {tl : List zC} {v : Int32} : (wld (tk, tp, bt, a, b, rf, nt) u tl).set 1 (.inr (.inr (7, List.set [.ref 2, .int (tp 0), .int (tp 1), .int (tp 2), .int (tp 3), .int (tp 4), .int (tp 5), .int (tp 6), .int (tp 7)] 7 (.int v)))) = (wld (tk, upd tp 6 v, bt, a, b, rf, nt) u tl) := by
  unfold wld
  dsimp only
  rfl
theorem wp_1_8 {tk : Int32} {tp bt rf nt : Nat → Int32} {a b : zR} {u : zU} {tl : List zC} {v : Int32} : (wld (tk, tp, bt, a, b, rf, nt) u tl).set 1 (.inr (.inr (7, List.set [.ref 2, .int (tp 0), .int (tp 1), .int (tp 2), .int (tp 3), .int (tp 4), .int (tp 5), .int (tp 6), .int (tp 7)] 8 (.int v)))) = (wld (tk, upd tp 7 v, bt, a, b, rf, nt) u tl) := by
  unfold wld
  dsimp only
  rfl
theorem ws_2 {tk : Int32} {tp bt rf nt : Nat → Int32} {a b : zR} {u : zU} {tl : List zC} {f : Nat → Int32} : (wld (tk, tp, bt, a, b, rf, nt) u tl).set 2 (.inl (24, f)) = (wld (tk, tp, f, a, b, rf, nt) u tl) := by
  unfold wld
  dsimp only
  rfl
theorem ws_43 {tk : Int32} {tp bt rf nt : Nat → Int32} {a b : zR} {u : zU} {tl : List zC} {f : Nat → Int32} : (wld (tk, tp, bt, a, b, rf, nt) u tl).set 43 (.inl (7, f)) = (wld (tk, tp, bt, a, b, f, nt) u tl) := by
  unfold wld
  dsimp only
  rfl
theorem ws_44 {tk : Int32} {tp bt rf nt : Nat → Int32} {a b : zR} {u : zU} {tl : List zC} {f : Nat → Int32} : (wld (tk, tp, bt, a, b, rf, nt) u tl).set 44 (.inl (30, f)) = (wld (tk, tp, bt, a, b, rf, f) u tl) := by
  unfold wld
  dsimp only
  rfl
theorem wp_3_7 {tk : Int32} {tp bt rf nt : Nat → Int32} {b : zR} {u : zU} {tl : List zC} {T PF PS : Nat → Option Nat} {C : Nat → Nat → Int32} {rc g pp bn sc : Nat → Int32} {v : Int32} : (wld (tk, tp, bt, (T, C, rc, PF, PS, g, pp, bn, sc), b, rf, nt) u tl).set 3 (.inr (.inr (6, List.set [.ref 4, .ref 5, .ref 18, .ref 19, .ref 20, .ref 21, .ref 22, .int (sc 0), .int (sc 1), .int (sc 2), .int (sc 3)] 7 (.int v)))) = (wld (tk, tp, bt, (T, C, rc, PF, PS, g, pp, bn, upd sc 0 v), b, rf, nt) u tl) := by
  unfold wld
  dsimp only
  rfl
theorem wp_3_8 {tk : Int32} {tp bt rf nt : Nat → Int32} {b : zR} {u : zU} {tl : List zC} {T PF PS : Nat → Option Nat} {C : Nat → Nat → Int32} {rc g pp bn sc : Nat → Int32} {v : Int32} : (wld (tk, tp, bt, (T, C, rc, PF, PS, g, pp, bn, sc), b, rf, nt) u tl).set 3 (.inr (.inr (6, List.set [.ref 4, .ref 5, .ref 18, .ref 19, .ref 20, .ref 21, .ref 22, .int (sc 0), .int (sc 1), .int (sc 2), .int (sc 3)] 8 (.int v)))) = (wld (tk, tp, bt, (T, C, rc, PF, PS, g, pp, bn, upd sc 1 v), b, rf, nt) u tl) := by
  unfold wld
  dsimp only
  rfl
theorem wp_3_9 {tk : Int32} {tp bt rf nt : Nat → Int32} {b : zR} {u : zU} {tl : List zC} {T PF PS : Nat → Option Nat} {C : Nat → Nat → Int32} {rc g pp bn sc : Nat → Int32} {v : Int32} : (wld (tk, tp, bt, (T, C, rc, PF, PS, g, pp, bn, sc), b, rf, nt) u tl).set 3 (.inr (.inr (6, List.set [.ref 4, .ref 5, .ref 18, .ref 19, .ref 20, .ref 21, .ref 22, .int (sc 0), .int (sc 1), .int (sc 2), .int (sc 3)] 9 (.int v)))) = (wld (tk, tp, bt, (T, C, rc, PF, PS, g, pp, bn, upd sc 2 v), b, rf, nt) u tl) := by
  unfold wld
  dsimp only
  rfl
theorem wp_3_10 {tk : Int32} {tp bt rf nt : Nat → Int32} {b : zR} {u : zU} {tl : List zC} {T PF PS : Nat → Option Nat} {C : Nat → Nat → Int32} {rc g pp bn sc : Nat → Int32} {v : Int32} : (wld (tk, tp, bt, (T, C, rc, PF, PS, g, pp, bn, sc), b, rf, nt) u tl).set 3 (.inr (.inr (6, List.set [.ref 4, .ref 5, .ref 18, .ref 19, .ref 20, .ref 21, .ref 22, .int (sc 0), .int (sc 1), .int (sc 2), .int (sc 3)] 10 (.int v)))) = (wld (tk, tp, bt, (T, C, rc, PF, PS, g, pp, bn, upd sc 3 v), b, rf, nt) u tl) := by
  unfold wld
  dsimp only
  rfl
theorem ws_4 {tk : Int32} {tp bt rf nt : Nat → Int32} {b : zR} {u : zU} {tl : List zC} {T PF PS : Nat → Option Nat} {C : Nat → Nat → Int32} {rc g pp bn sc : Nat → Int32} {f : Nat → Option Nat} : (wld (tk, tp, bt, (T, C, rc, PF, PS, g, pp, bn, sc), b, rf, nt) u tl).set 4 (.inr (.inl (1, 30, f))) = (wld (tk, tp, bt, (f, C, rc, PF, PS, g, pp, bn, sc), b, rf, nt) u tl) := by
  unfold wld
  dsimp only
  rfl
theorem ws_18 {tk : Int32} {tp bt rf nt : Nat → Int32} {b : zR} {u : zU} {tl : List zC} {T PF PS : Nat → Option Nat} {C : Nat → Nat → Int32} {rc g pp bn sc : Nat → Int32} {f : Nat → Option Nat} : (wld (tk, tp, bt, (T, C, rc, PF, PS, g, pp, bn, sc), b, rf, nt) u tl).set 18 (.inr (.inl (1, 10, f))) = (wld (tk, tp, bt, (T, C, rc, f, PS, g, pp, bn, sc), b, rf, nt) u tl) := by
  unfold wld
  dsimp only
  rfl
theorem ws_19 {tk : Int32} {tp bt rf nt : Nat → Int32} {b : zR} {u : zU} {tl : List zC} {T PF PS : Nat → Option Nat} {C : Nat → Nat → Int32} {rc g pp bn sc : Nat → Int32} {f : Nat → Option Nat} : (wld (tk, tp, bt, (T, C, rc, PF, PS, g, pp, bn, sc), b, rf, nt) u tl).set 19 (.inr (.inl (1, 10, f))) = (wld (tk, tp, bt, (T, C, rc, PF, f, g, pp, bn, sc), b, rf, nt) u tl) := by
  unfold wld
  dsimp only
  rfl
theorem ws_20 {tk : Int32} {tp bt rf nt : Nat → Int32} {b : zR} {u : zU} {tl : List zC} {T PF PS : Nat → Option Nat} {C : Nat → Nat → Int32} {rc g pp bn sc : Nat → Int32} {f : Nat → Int32} : (wld (tk, tp, bt, (T, C, rc, PF, PS, g, pp, bn, sc), b, rf, nt) u tl).set 20 (.inl (2, f)) = (wld (tk, tp, bt, (T, C, rc, PF, PS, f, pp, bn, sc), b, rf, nt) u tl) := by
  unfold wld
  dsimp only
  rfl
theorem ws_21 {tk : Int32} {tp bt rf nt : Nat → Int32} {b : zR} {u : zU} {tl : List zC} {T PF PS : Nat → Option Nat} {C : Nat → Nat → Int32} {rc g pp bn sc : Nat → Int32} {f : Nat → Int32} : (wld (tk, tp, bt, (T, C, rc, PF, PS, g, pp, bn, sc), b, rf, nt) u tl).set 21 (.inl (10, f)) = (wld (tk, tp, bt, (T, C, rc, PF, PS, g, f, bn, sc), b, rf, nt) u tl) := by
  unfold wld
  dsimp only
  rfl
theorem wp_22_0 {tk : Int32} {tp bt rf nt : Nat → Int32} {b : zR} {u : zU} {tl : List zC} {T PF PS : Nat → Option Nat} {C : Nat → Nat → Int32} {rc g pp bn sc : Nat → Int32} {v : Int32} : (wld (tk, tp, bt, (T, C, rc, PF, PS, g, pp, bn, sc), b, rf, nt) u tl).set 22 (.inr (.inr (0, List.set [.int (bn 0), .int (bn 1), .int (bn 2), .int (bn 3)] 0 (.int v)))) = (wld (tk, tp, bt, (T, C, rc, PF, PS, g, pp, upd bn 0 v, sc), b, rf, nt) u tl) := by
  unfold wld
  dsimp only
  rfl
theorem wp_22_1 {tk : Int32} {tp bt rf nt : Nat → Int32} {b : zR} {u : zU} {tl : List zC} {T PF PS : Nat → Option Nat} {C : Nat → Nat → Int32} {rc g pp bn sc : Nat → Int32} {v : Int32} : (wld (tk, tp, bt, (T, C, rc, PF, PS, g, pp, bn, sc), b, rf, nt) u tl).set 22 (.inr (.inr (0, List.set [.int (bn 0), .int (bn 1), .int (bn 2), .int (bn 3)] 1 (.int v)))) = (wld (tk, tp, bt, (T, C, rc, PF, PS, g, pp, upd bn 1 v, sc), b, rf, nt) u tl) := by
  unfold wld
  dsimp only
  rfl
theorem wp_22_2 {tk : Int32} {tp bt rf nt : Nat → Int32} {b : zR} {u : zU} {tl : List zC} {T PF PS : Nat → Option Nat} {C : Nat → Nat → Int32} {rc g pp bn sc : Nat → Int32} {v : Int32} : (wld (tk, tp, bt, (T, C, rc, PF, PS, g, pp, bn, sc), b, rf, nt) u tl).set 22 (.inr (.inr (0, List.set [.int (bn 0), .int (bn 1), .int (bn 2), .int (bn 3)] 2 (.int v)))) = (wld (tk, tp, bt, (T, C, rc, PF, PS, g, pp, upd bn 2 v, sc), b, rf, nt) u tl) := by
  unfold wld
  dsimp only
  rfl
theorem wp_22_3 {tk : Int32} {tp bt rf nt : Nat → Int32} {b : zR} {u : zU} {tl : List zC} {T PF PS : Nat → Option Nat} {C : Nat → Nat → Int32} {rc g pp bn sc : Nat → Int32} {v : Int32} : (wld (tk, tp, bt, (T, C, rc, PF, PS, g, pp, bn, sc), b, rf, nt) u tl).set 22 (.inr (.inr (0, List.set [.int (bn 0), .int (bn 1), .int (bn 2), .int (bn 3)] 3 (.int v)))) = (wld (tk, tp, bt, (T, C, rc, PF, PS, g, pp, upd bn 3 v, sc), b, rf, nt) u tl) := by
  unfold wld
  dsimp only
  rfl
theorem ws_cond3 {tk : Int32} {tp bt rf nt : Nat → Int32} {b : zR} {u : zU} {tl : List zC} {T PF PS : Nat → Option Nat} {C : Nat → Nat → Int32} {rc g pp bn sc : Nat → Int32} {l : Nat} (hl : l < 6) {f : Nat → Int32} : (wld (tk, tp, bt, (T, C, rc, PF, PS, g, pp, bn, sc), b, rf, nt) u tl).set (7 + 2 * l) (.inl (7, f)) = (wld (tk, tp, bt, (T, (fun i => if i = l then f else C i), rc, PF, PS, g, pp, bn, sc), b, rf, nt) u tl) := by
  rcases (show l = 0 ∨ l = 1 ∨ l = 2 ∨ l = 3 ∨ l = 4 ∨ l = 5 by omega) with rfl | rfl | rfl | rfl | rfl | rfl <;> (unfold wld; dsimp only; rfl)
theorem wp_law3 {tk : Int32} {tp bt rf nt : Nat → Int32} {b : zR} {u : zU} {tl : List zC} {T PF PS : Nat → Option Nat} {C : Nat → Nat → Int32} {rc g pp bn sc : Nat → Int32} {l : Nat} (hl : l < 6) {v : Int32} : (wld (tk, tp, bt, (T, C, rc, PF, PS, g, pp, bn, sc), b, rf, nt) u tl).set (6 + 2 * l) (.inr (.inr (4, List.set [.ref (7 + 2 * l), .int (rc l)] 1 (.int v)))) = (wld (tk, tp, bt, (T, C, (upd rc l v), PF, PS, g, pp, bn, sc), b, rf, nt) u tl) := by
  rcases (show l = 0 ∨ l = 1 ∨ l = 2 ∨ l = 3 ∨ l = 4 ∨ l = 5 by omega) with rfl | rfl | rfl | rfl | rfl | rfl <;> (unfold wld; dsimp only; rfl)
theorem wp_23_7 {tk : Int32} {tp bt rf nt : Nat → Int32} {b : zR} {u : zU} {tl : List zC} {T PF PS : Nat → Option Nat} {C : Nat → Nat → Int32} {rc g pp bn sc : Nat → Int32} {v : Int32} : (wld (tk, tp, bt, b, (T, C, rc, PF, PS, g, pp, bn, sc), rf, nt) u tl).set 23 (.inr (.inr (6, List.set [.ref 24, .ref 25, .ref 38, .ref 39, .ref 40, .ref 41, .ref 42, .int (sc 0), .int (sc 1), .int (sc 2), .int (sc 3)] 7 (.int v)))) = (wld (tk, tp, bt, b, (T, C, rc, PF, PS, g, pp, bn, upd sc 0 v), rf, nt) u tl) := by
  unfold wld
  dsimp only
  rfl
theorem wp_23_8 {tk : Int32} {tp bt rf nt : Nat → Int32} {b : zR} {u : zU} {tl : List zC} {T PF PS : Nat → Option Nat} {C : Nat → Nat → Int32} {rc g pp bn sc : Nat → Int32} {v : Int32} : (wld (tk, tp, bt, b, (T, C, rc, PF, PS, g, pp, bn, sc), rf, nt) u tl).set 23 (.inr (.inr (6, List.set [.ref 24, .ref 25, .ref 38, .ref 39, .ref 40, .ref 41, .ref 42, .int (sc 0), .int (sc 1), .int (sc 2), .int (sc 3)] 8 (.int v)))) = (wld (tk, tp, bt, b, (T, C, rc, PF, PS, g, pp, bn, upd sc 1 v), rf, nt) u tl) := by
  unfold wld
  dsimp only
  rfl
theorem wp_23_9 {tk : Int32} {tp bt rf nt : Nat → Int32} {b : zR} {u : zU} {tl : List zC} {T PF PS : Nat → Option Nat} {C : Nat → Nat → Int32} {rc g pp bn sc : Nat → Int32} {v : Int32} : (wld (tk, tp, bt, b, (T, C, rc, PF, PS, g, pp, bn, sc), rf, nt) u tl).set 23 (.inr (.inr (6, List.set [.ref 24, .ref 25, .ref 38, .ref 39, .ref 40, .ref 41, .ref 42, .int (sc 0), .int (sc 1), .int (sc 2), .int (sc 3)] 9 (.int v)))) = (wld (tk, tp, bt, b, (T, C, rc, PF, PS, g, pp, bn, upd sc 2 v), rf, nt) u tl) := by
  unfold wld
  dsimp only
  rfl
theorem wp_23_10 {tk : Int32} {tp bt rf nt : Nat → Int32} {b : zR} {u : zU} {tl : List zC} {T PF PS : Nat → Option Nat} {C : Nat → Nat → Int32} {rc g pp bn sc : Nat → Int32} {v : Int32} : (wld (tk, tp, bt, b, (T, C, rc, PF, PS, g, pp, bn, sc), rf, nt) u tl).set 23 (.inr (.inr (6, List.set [.ref 24, .ref 25, .ref 38, .ref 39, .ref 40, .ref 41, .ref 42, .int (sc 0), .int (sc 1), .int (sc 2), .int (sc 3)] 10 (.int v)))) = (wld (tk, tp, bt, b, (T, C, rc, PF, PS, g, pp, bn, upd sc 3 v), rf, nt) u tl) := by
  unfold wld
  dsimp only
  rfl
theorem ws_24 {tk : Int32} {tp bt rf nt : Nat → Int32} {b : zR} {u : zU} {tl : List zC} {T PF PS : Nat → Option Nat} {C : Nat → Nat → Int32} {rc g pp bn sc : Nat → Int32} {f : Nat → Option Nat} : (wld (tk, tp, bt, b, (T, C, rc, PF, PS, g, pp, bn, sc), rf, nt) u tl).set 24 (.inr (.inl (1, 30, f))) = (wld (tk, tp, bt, b, (f, C, rc, PF, PS, g, pp, bn, sc), rf, nt) u tl) := by
  unfold wld
  dsimp only
  rfl
theorem ws_38 {tk : Int32} {tp bt rf nt : Nat → Int32} {b : zR} {u : zU} {tl : List zC} {T PF PS : Nat → Option Nat} {C : Nat → Nat → Int32} {rc g pp bn sc : Nat → Int32} {f : Nat → Option Nat} : (wld (tk, tp, bt, b, (T, C, rc, PF, PS, g, pp, bn, sc), rf, nt) u tl).set 38 (.inr (.inl (1, 10, f))) = (wld (tk, tp, bt, b, (T, C, rc, f, PS, g, pp, bn, sc), rf, nt) u tl) := by
  unfold wld
  dsimp only
  rfl
theorem ws_39 {tk : Int32} {tp bt rf nt : Nat → Int32} {b : zR} {u : zU} {tl : List zC} {T PF PS : Nat → Option Nat} {C : Nat → Nat → Int32} {rc g pp bn sc : Nat → Int32} {f : Nat → Option Nat} : (wld (tk, tp, bt, b, (T, C, rc, PF, PS, g, pp, bn, sc), rf, nt) u tl).set 39 (.inr (.inl (1, 10, f))) = (wld (tk, tp, bt, b, (T, C, rc, PF, f, g, pp, bn, sc), rf, nt) u tl) := by
  unfold wld
  dsimp only
  rfl
theorem ws_40 {tk : Int32} {tp bt rf nt : Nat → Int32} {b : zR} {u : zU} {tl : List zC} {T PF PS : Nat → Option Nat} {C : Nat → Nat → Int32} {rc g pp bn sc : Nat → Int32} {f : Nat → Int32} : (wld (tk, tp, bt, b, (T, C, rc, PF, PS, g, pp, bn, sc), rf, nt) u tl).set 40 (.inl (2, f)) = (wld (tk, tp, bt, b, (T, C, rc, PF, PS, f, pp, bn, sc), rf, nt) u tl) := by
  unfold wld
  dsimp only
  rfl
theorem ws_41 {tk : Int32} {tp bt rf nt : Nat → Int32} {b : zR} {u : zU} {tl : List zC} {T PF PS : Nat → Option Nat} {C : Nat → Nat → Int32} {rc g pp bn sc : Nat → Int32} {f : Nat → Int32} : (wld (tk, tp, bt, b, (T, C, rc, PF, PS, g, pp, bn, sc), rf, nt) u tl).set 41 (.inl (10, f)) = (wld (tk, tp, bt, b, (T, C, rc, PF, PS, g, f, bn, sc), rf, nt) u tl) := by
  unfold wld
  dsimp only
  rfl
theorem wp_42_0 {tk : Int32} {tp bt rf nt : Nat → Int32} {b : zR} {u : zU} {tl : List zC} {T PF PS : Nat → Option Nat} {C : Nat → Nat → Int32} {rc g pp bn sc : Nat → Int32} {v : Int32} : (wld (tk, tp, bt, b, (T, C, rc, PF, PS, g, pp, bn, sc), rf, nt) u tl).set 42 (.inr (.inr (0, List.set [.int (bn 0), .int (bn 1), .int (bn 2), .int (bn 3)] 0 (.int v)))) = (wld (tk, tp, bt, b, (T, C, rc, PF, PS, g, pp, upd bn 0 v, sc), rf, nt) u tl) := by
  unfold wld
  dsimp only
  rfl
theorem wp_42_1 {tk : Int32} {tp bt rf nt : Nat → Int32} {b : zR} {u : zU} {tl : List zC} {T PF PS : Nat → Option Nat} {C : Nat → Nat → Int32} {rc g pp bn sc : Nat → Int32} {v : Int32} : (wld (tk, tp, bt, b, (T, C, rc, PF, PS, g, pp, bn, sc), rf, nt) u tl).set 42 (.inr (.inr (0, List.set [.int (bn 0), .int (bn 1), .int (bn 2), .int (bn 3)] 1 (.int v)))) = (wld (tk, tp, bt, b, (T, C, rc, PF, PS, g, pp, upd bn 1 v, sc), rf, nt) u tl) := by
  unfold wld
  dsimp only
  rfl
theorem wp_42_2 {tk : Int32} {tp bt rf nt : Nat → Int32} {b : zR} {u : zU} {tl : List zC} {T PF PS : Nat → Option Nat} {C : Nat → Nat → Int32} {rc g pp bn sc : Nat → Int32} {v : Int32} : (wld (tk, tp, bt, b, (T, C, rc, PF, PS, g, pp, bn, sc), rf, nt) u tl).set 42 (.inr (.inr (0, List.set [.int (bn 0), .int (bn 1), .int (bn 2), .int (bn 3)] 2 (.int v)))) = (wld (tk, tp, bt, b, (T, C, rc, PF, PS, g, pp, upd bn 2 v, sc), rf, nt) u tl) := by
  unfold wld
  dsimp only
  rfl
theorem wp_42_3 {tk : Int32} {tp bt rf nt : Nat → Int32} {b : zR} {u : zU} {tl : List zC} {T PF PS : Nat → Option Nat} {C : Nat → Nat → Int32} {rc g pp bn sc : Nat → Int32} {v : Int32} : (wld (tk, tp, bt, b, (T, C, rc, PF, PS, g, pp, bn, sc), rf, nt) u tl).set 42 (.inr (.inr (0, List.set [.int (bn 0), .int (bn 1), .int (bn 2), .int (bn 3)] 3 (.int v)))) = (wld (tk, tp, bt, b, (T, C, rc, PF, PS, g, pp, upd bn 3 v, sc), rf, nt) u tl) := by
  unfold wld
  dsimp only
  rfl
theorem ws_cond23 {tk : Int32} {tp bt rf nt : Nat → Int32} {b : zR} {u : zU} {tl : List zC} {T PF PS : Nat → Option Nat} {C : Nat → Nat → Int32} {rc g pp bn sc : Nat → Int32} {l : Nat} (hl : l < 6) {f : Nat → Int32} : (wld (tk, tp, bt, b, (T, C, rc, PF, PS, g, pp, bn, sc), rf, nt) u tl).set (27 + 2 * l) (.inl (7, f)) = (wld (tk, tp, bt, b, (T, (fun i => if i = l then f else C i), rc, PF, PS, g, pp, bn, sc), rf, nt) u tl) := by
  rcases (show l = 0 ∨ l = 1 ∨ l = 2 ∨ l = 3 ∨ l = 4 ∨ l = 5 by omega) with rfl | rfl | rfl | rfl | rfl | rfl <;> (unfold wld; dsimp only; rfl)
theorem wp_law23 {tk : Int32} {tp bt rf nt : Nat → Int32} {b : zR} {u : zU} {tl : List zC} {T PF PS : Nat → Option Nat} {C : Nat → Nat → Int32} {rc g pp bn sc : Nat → Int32} {l : Nat} (hl : l < 6) {v : Int32} : (wld (tk, tp, bt, b, (T, C, rc, PF, PS, g, pp, bn, sc), rf, nt) u tl).set (26 + 2 * l) (.inr (.inr (4, List.set [.ref (27 + 2 * l), .int (rc l)] 1 (.int v)))) = (wld (tk, tp, bt, b, (T, C, (upd rc l v), PF, PS, g, pp, bn, sc), rf, nt) u tl) := by
  rcases (show l = 0 ∨ l = 1 ∨ l = 2 ∨ l = 3 ∨ l = 4 ∨ l = 5 by omega) with rfl | rfl | rfl | rfl | rfl | rfl <;> (unfold wld; dsimp only; rfl)
/-- a loop, from its end back -/
theorem zloop (P : Nat → Prop) (n : Nat) (hx : P n) (hs : ∀ i, i < n → P (i + 1) → P i) (i : Nat) (hi : i ≤ n) : P i := by
  obtain ⟨k, hk⟩ : ∃ k, i + k = n := ⟨n - i, by omega⟩
  clear hi
  induction k generalizing i with
  | zero =>
    have : i = n := by omega
    subst this
    exact hx
  | succ k ih => exact hs i (by omega) (ih (i + 1) (by omega))
theorem z_hp {X : zS} {M : zM} {d kc ks : Nat} {r : Option Value} {hp' : List zC} {pc : Nat} {L : List (Option Value)} {st : List Value} {hp hp1 : List zC} (e : hp = hp1) (k : Z X M d kc ks r hp' pc L st hp1) : Z X M d kc ks r hp' pc L st hp := e ▸ k
theorem z_L {X : zS} {M : zM} {d kc ks : Nat} {r : Option Value} {hp' : List zC} {pc : Nat} {L : List (Option Value)} {st : List Value} {hp : List zC} (L1 : List (Option Value)) (e : L = L1) (k : Z X M d kc ks r hp' pc L1 st hp) : Z X M d kc ks r hp' pc L st hp := e ▸ k
theorem z_top {X : zS} {M : zM} {d kc ks : Nat} {r : Option Value} {hp' : List zC} {pc : Nat} {L : List (Option Value)} {st : List Value} {hp : List zC} {v : Value} (w : Value) (e : v = w) (k : Z X M d kc ks r hp' pc L (w :: st) hp) : Z X M d kc ks r hp' pc L (v :: st) hp := e ▸ k
def zb (b : Bool) : Int32 := if b = true then 1 else 0
theorem zb_nar (b : Bool) : narrow .boolean (.int (zb b)) = .int (zb b) := by cases b <;> rfl
theorem zb_t : zb true = 1 := rfl
theorem zb_f : zb false = 0 := rfl
theorem zb_of {c : Prop} [Decidable c] (h : c) : zb (decide c) = 1 := by rw [decide_eq_true h]; rfl
theorem zb_no {c : Prop} [Decidable c] (h : ¬ c) : zb (decide c) = 0 := by rw [decide_eq_false h]; rfl
theorem zb_ne (b : Bool) : ¬ zb b = 0 ↔ b = true := by cases b <;> decide
theorem zb_eq (b : Bool) : zb b = 0 ↔ b = false := by cases b <;> decide
