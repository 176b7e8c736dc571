theorem wd_0 {tk : Int32} {tp bt crf nt : Nat → Int32} {T PF PS T2 PF2 PS2 : Nat → Option Nat} {C C2 : Nat → Nat → Int32} {rc g pp bn sc rc2 g2 pp2 bn2 sc2 : Nat → Int32} {u : zU} {tl : List zC} : (wld (tk, tp, bt, (T, C, rc, PF, PS, g, pp, bn, sc), (T2, C2, rc2, PF2, PS2, g2, pp2, bn2, sc2), crf, nt) u tl)[0]? = some (.inr (.inr (10, [.ref 1, .ref 3, .ref 23, .ref 43, .ref 44, .int (tk)]))) := rfl
theorem wd_1 {tk : Int32} {tp bt crf nt : Nat → Int32} {T PF PS T2 PF2 PS2 : Nat → Option Nat} {C C2 : Nat → Nat → Int32} {rc g pp bn sc rc2 g2 pp2 bn2 sc2 : Nat → Int32} {u : zU} {tl : List zC} : (wld (tk, tp, bt, (T, C, rc, PF, PS, g, pp, bn, sc), (T2, C2, rc2, PF2, PS2, g2, pp2, bn2, sc2), crf, nt) u tl)[1]? = some (.inr (.inr (7, [.ref 2, .int (tp 0), .int (tp 1), .int (tp 2), .int (tp 3), .int (tp 4), .int (tp 5), .int (tp 6), .int (tp 7)]))) := rfl
theorem wd_2 {tk : Int32} {tp bt crf nt : Nat → Int32} {T PF PS T2 PF2 PS2 : Nat → Option Nat} {C C2 : Nat → Nat → Int32} {rc g pp bn sc rc2 g2 pp2 bn2 sc2 : Nat → Int32} {u : zU} {tl : List zC} : (wld (tk, tp, bt, (T, C, rc, PF, PS, g, pp, bn, sc), (T2, C2, rc2, PF2, PS2, g2, pp2, bn2, sc2), crf, nt) u tl)[2]? = some (.inl (24, bt)) := rfl
theorem wd_3 {tk : Int32} {tp bt crf nt : Nat → Int32} {T PF PS T2 PF2 PS2 : Nat → Option Nat} {C C2 : Nat → Nat → Int32} {rc g pp bn sc rc2 g2 pp2 bn2 sc2 : Nat → Int32} {u : zU} {tl : List zC} : (wld (tk, tp, bt, (T, C, rc, PF, PS, g, pp, bn, sc), (T2, C2, rc2, PF2, PS2, g2, pp2, bn2, sc2), crf, nt) u tl)[3]? = some (.inr (.inr (6, [.ref 4, .ref 5, .ref 18, .ref 19, .ref 20, .ref 21, .ref 22, .int (sc 0), .int (sc 1), .int (sc 2), .int (sc 3)]))) := rfl
theorem wd_4 {tk : Int32} {tp bt crf nt : Nat → Int32} {T PF PS T2 PF2 PS2 : Nat → Option Nat} {C C2 : Nat → Nat → Int32} {rc g pp bn sc rc2 g2 pp2 bn2 sc2 : Nat → Int32} {u : zU} {tl : List zC} : (wld (tk, tp, bt, (T, C, rc, PF, PS, g, pp, bn, sc), (T2, C2, rc2, PF2, PS2, g2, pp2, bn2, sc2), crf, nt) u tl)[4]? = some (.inr (.inl (1, 30, T))) := rfl
theorem wd_5 {tk : Int32} {tp bt crf nt : Nat → Int32} {T PF PS T2 PF2 PS2 : Nat → Option Nat} {C C2 : Nat → Nat → Int32} {rc g pp bn sc rc2 g2 pp2 bn2 sc2 : Nat → Int32} {u : zU} {tl : List zC} : (wld (tk, tp, bt, (T, C, rc, PF, PS, g, pp, bn, sc), (T2, C2, rc2, PF2, PS2, g2, pp2, bn2, sc2), crf, nt) u tl)[5]? = some (.inr (.inl (0, 6, lrow 6))) := rfl
theorem wd_6 {tk : Int32} {tp bt crf nt : Nat → Int32} {T PF PS T2 PF2 PS2 : Nat → Option Nat} {C C2 : Nat → Nat → Int32} {rc g pp bn sc rc2 g2 pp2 bn2 sc2 : Nat → Int32} {u : zU} {tl : List zC} : (wld (tk, tp, bt, (T, C, rc, PF, PS, g, pp, bn, sc), (T2, C2, rc2, PF2, PS2, g2, pp2, bn2, sc2), crf, nt) u tl)[6]? = some (.inr (.inr (4, [.ref 7, .int (rc 0)]))) := rfl
theorem wd_7 {tk : Int32} {tp bt crf nt : Nat → Int32} {T PF PS T2 PF2 PS2 : Nat → Option Nat} {C C2 : Nat → Nat → Int32} {rc g pp bn sc rc2 g2 pp2 bn2 sc2 : Nat → Int32} {u : zU} {tl : List zC} : (wld (tk, tp, bt, (T, C, rc, PF, PS, g, pp, bn, sc), (T2, C2, rc2, PF2, PS2, g2, pp2, bn2, sc2), crf, nt) u tl)[7]? = some (.inl (7, C 0)) := rfl
theorem wd_8 {tk : Int32} {tp bt crf nt : Nat → Int32} {T PF PS T2 PF2 PS2 : Nat → Option Nat} {C C2 : Nat → Nat → Int32} {rc g pp bn sc rc2 g2 pp2 bn2 sc2 : Nat → Int32} {u : zU} {tl : List zC} : (wld (tk, tp, bt, (T, C, rc, PF, PS, g, pp, bn, sc), (T2, C2, rc2, PF2, PS2, g2, pp2, bn2, sc2), crf, nt) u tl)[8]? = some (.inr (.inr (4, [.ref 9, .int (rc 1)]))) := rfl
theorem wd_9 {tk : Int32} {tp bt crf nt : Nat → Int32} {T PF PS T2 PF2 PS2 : Nat → Option Nat} {C C2 : Nat → Nat → Int32} {rc g pp bn sc rc2 g2 pp2 bn2 sc2 : Nat → Int32} {u : zU} {tl : List zC} : (wld (tk, tp, bt, (T, C, rc, PF, PS, g, pp, bn, sc), (T2, C2, rc2, PF2, PS2, g2, pp2, bn2, sc2), crf, nt) u tl)[9]? = some (.inl (7, C 1)) := rfl
theorem wd_10 {tk : Int32} {tp bt crf nt : Nat → Int32} {T PF PS T2 PF2 PS2 : Nat → Option Nat} {C C2 : Nat → Nat → Int32} {rc g pp bn sc rc2 g2 pp2 bn2 sc2 : Nat → Int32} {u : zU} {tl : List zC} : (wld (tk, tp, bt, (T, C, rc, PF, PS, g, pp, bn, sc), (T2, C2, rc2, PF2, PS2, g2, pp2, bn2, sc2), crf, nt) u tl)[10]? = some (.inr (.inr (4, [.ref 11, .int (rc 2)]))) := rfl
theorem wd_11 {tk : Int32} {tp bt crf nt : Nat → Int32} {T PF PS T2 PF2 PS2 : Nat → Option Nat} {C C2 : Nat → Nat → Int32} {rc g pp bn sc rc2 g2 pp2 bn2 sc2 : Nat → Int32} {u : zU} {tl : List zC} : (wld (tk, tp, bt, (T, C, rc, PF, PS, g, pp, bn, sc), (T2, C2, rc2, PF2, PS2, g2, pp2, bn2, sc2), crf, nt) u tl)[11]? = some (.inl (7, C 2)) := rfl
theorem wd_12 {tk : Int32} {tp bt crf nt : Nat → Int32} {T PF PS T2 PF2 PS2 : Nat → Option Nat} {C C2 : Nat → Nat → Int32} {rc g pp bn sc rc2 g2 pp2 bn2 sc2 : Nat → Int32} {u : zU} {tl : List zC} : (wld (tk, tp, bt, (T, C, rc, PF, PS, g, pp, bn, sc), (T2, C2, rc2, PF2, PS2, g2, pp2, bn2, sc2), crf, nt) u tl)[12]? = some (.inr (.inr (4, [.ref 13, .int (rc 3)]))) := rfl
theorem wd_13 {tk : Int32} {tp bt crf nt : Nat → Int32} {T PF PS T2 PF2 PS2 : Nat → Option Nat} {C C2 : Nat → Nat → Int32} {rc g pp bn sc rc2 g2 pp2 bn2 sc2 : Nat → Int32} {u : zU} {tl : List zC} : (wld (tk, tp, bt, (T, C, rc, PF, PS, g, pp, bn, sc), (T2, C2, rc2, PF2, PS2, g2, pp2, bn2, sc2), crf, nt) u tl)[13]? = some (.inl (7, C 3)) := rfl
theorem wd_14 {tk : Int32} {tp bt crf nt : Nat → Int32} {T PF PS T2 PF2 PS2 : Nat → Option Nat} {C C2 : Nat → Nat → Int32} {rc g pp bn sc rc2 g2 pp2 bn2 sc2 : Nat → Int32} {u : zU} {tl : List zC} : (wld (tk, tp, bt, (T, C, rc, PF, PS, g, pp, bn, sc), (T2, C2, rc2, PF2, PS2, g2, pp2, bn2, sc2), crf, nt) u tl)[14]? = some (.inr (.inr (4, [.ref 15, .int (rc 4)]))) := rfl
theorem wd_15 {tk : Int32} {tp bt crf nt : Nat → Int32} {T PF PS T2 PF2 PS2 : Nat → Option Nat} {C C2 : Nat → Nat → Int32} {rc g pp bn sc rc2 g2 pp2 bn2 sc2 : Nat → Int32} {u : zU} {tl : List zC} : (wld (tk, tp, bt, (T, C, rc, PF, PS, g, pp, bn, sc), (T2, C2, rc2, PF2, PS2, g2, pp2, bn2, sc2), crf, nt) u tl)[15]? = some (.inl (7, C 4)) := rfl
theorem wd_16 {tk : Int32} {tp bt crf nt : Nat → Int32} {T PF PS T2 PF2 PS2 : Nat → Option Nat} {C C2 : Nat → Nat → Int32} {rc g pp bn sc rc2 g2 pp2 bn2 sc2 : Nat → Int32} {u : zU} {tl : List zC} : (wld (tk, tp, bt, (T, C, rc, PF, PS, g, pp, bn, sc), (T2, C2, rc2, PF2, PS2, g2, pp2, bn2, sc2), crf, nt) u tl)[16]? = some (.inr (.inr (4, [.ref 17, .int (rc 5)]))) := rfl
theorem wd_17 {tk : Int32} {tp bt crf nt : Nat → Int32} {T PF PS T2 PF2 PS2 : Nat → Option Nat} {C C2 : Nat → Nat → Int32} {rc g pp bn sc rc2 g2 pp2 bn2 sc2 : Nat → Int32} {u : zU} {tl : List zC} : (wld (tk, tp, bt, (T, C, rc, PF, PS, g, pp, bn, sc), (T2, C2, rc2, PF2, PS2, g2, pp2, bn2, sc2), crf, nt) u tl)[17]? = some (.inl (7, C 5)) := rfl
theorem wd_18 {tk : Int32} {tp bt crf nt : Nat → Int32} {T PF PS T2 PF2 PS2 : Nat → Option Nat} {C C2 : Nat → Nat → Int32} {rc g pp bn sc rc2 g2 pp2 bn2 sc2 : Nat → Int32} {u : zU} {tl : List zC} : (wld (tk, tp, bt, (T, C, rc, PF, PS, g, pp, bn, sc), (T2, C2, rc2, PF2, PS2, g2, pp2, bn2, sc2), crf, nt) u tl)[18]? = some (.inr (.inl (1, 10, PF))) := rfl
theorem wd_19 {tk : Int32} {tp bt crf nt : Nat → Int32} {T PF PS T2 PF2 PS2 : Nat → Option Nat} {C C2 : Nat → Nat → Int32} {rc g pp bn sc rc2 g2 pp2 bn2 sc2 : Nat → Int32} {u : zU} {tl : List zC} : (wld (tk, tp, bt, (T, C, rc, PF, PS, g, pp, bn, sc), (T2, C2, rc2, PF2, PS2, g2, pp2, bn2, sc2), crf, nt) u tl)[19]? = some (.inr (.inl (1, 10, PS))) := rfl
theorem wd_20 {tk : Int32} {tp bt crf nt : Nat → Int32} {T PF PS T2 PF2 PS2 : Nat → Option Nat} {C C2 : Nat → Nat → Int32} {rc g pp bn sc rc2 g2 pp2 bn2 sc2 : Nat → Int32} {u : zU} {tl : List zC} : (wld (tk, tp, bt, (T, C, rc, PF, PS, g, pp, bn, sc), (T2, C2, rc2, PF2, PS2, g2, pp2, bn2, sc2), crf, nt) u tl)[20]? = some (.inl (2, g)) := rfl
theorem wd_21 {tk : Int32} {tp bt crf nt : Nat → Int32} {T PF PS T2 PF2 PS2 : Nat → Option Nat} {C C2 : Nat → Nat → Int32} {rc g pp bn sc rc2 g2 pp2 bn2 sc2 : Nat → Int32} {u : zU} {tl : List zC} : (wld (tk, tp, bt, (T, C, rc, PF, PS, g, pp, bn, sc), (T2, C2, rc2, PF2, PS2, g2, pp2, bn2, sc2), crf, nt) u tl)[21]? = some (.inl (10, pp)) := rfl
theorem wd_22 {tk : Int32} {tp bt crf nt : Nat → Int32} {T PF PS T2 PF2 PS2 : Nat → Option Nat} {C C2 : Nat → Nat → Int32} {rc g pp bn sc rc2 g2 pp2 bn2 sc2 : Nat → Int32} {u : zU} {tl : List zC} : (wld (tk, tp, bt, (T, C, rc, PF, PS, g, pp, bn, sc), (T2, C2, rc2, PF2, PS2, g2, pp2, bn2, sc2), crf, nt) u tl)[22]? = some (.inr (.inr (0, [.int (bn 0), .int (bn 1), .int (bn 2), .int (bn 3)]))) := rfl
theorem wd_23 {tk : Int32} {tp bt crf nt : Nat → Int32} {T PF PS T2 PF2 PS2 : Nat → Option Nat} {C C2 : Nat → Nat → Int32} {rc g pp bn sc rc2 g2 pp2 bn2 sc2 : Nat → Int32} {u : zU} {tl : List zC} : (wld (tk, tp, bt, (T, C, rc, PF, PS, g, pp, bn, sc), (T2, C2, rc2, PF2, PS2, g2, pp2, bn2, sc2), crf, nt) u tl)[23]? = some (.inr (.inr (6, [.ref 24, .ref 25, .ref 38, .ref 39, .ref 40, .ref 41, .ref 42, .int (sc2 0), .int (sc2 1), .int (sc2 2), .int (sc2 3)]))) := rfl
theorem wd_24 {tk : Int32} {tp bt crf nt : Nat → Int32} {T PF PS T2 PF2 PS2 : Nat → Option Nat} {C C2 : Nat → Nat → Int32} {rc g pp bn sc rc2 g2 pp2 bn2 sc2 : Nat → Int32} {u : zU} {tl : List zC} : (wld (tk, tp, bt, (T, C, rc, PF, PS, g, pp, bn, sc), (T2, C2, rc2, PF2, PS2, g2, pp2, bn2, sc2), crf, nt) u tl)[24]? = some (.inr (.inl (1, 30, T2))) := rfl
theorem wd_25 {tk : Int32} {tp bt crf nt : Nat → Int32} {T PF PS T2 PF2 PS2 : Nat → Option Nat} {C C2 : Nat → Nat → Int32} {rc g pp bn sc rc2 g2 pp2 bn2 sc2 : Nat → Int32} {u : zU} {tl : List zC} : (wld (tk, tp, bt, (T, C, rc, PF, PS, g, pp, bn, sc), (T2, C2, rc2, PF2, PS2, g2, pp2, bn2, sc2), crf, nt) u tl)[25]? = some (.inr (.inl (0, 6, lrow 26))) := rfl
theorem wd_26 {tk : Int32} {tp bt crf nt : Nat → Int32} {T PF PS T2 PF2 PS2 : Nat → Option Nat} {C C2 : Nat → Nat → Int32} {rc g pp bn sc rc2 g2 pp2 bn2 sc2 : Nat → Int32} {u : zU} {tl : List zC} : (wld (tk, tp, bt, (T, C, rc, PF, PS, g, pp, bn, sc), (T2, C2, rc2, PF2, PS2, g2, pp2, bn2, sc2), crf, nt) u tl)[26]? = some (.inr (.inr (4, [.ref 27, .int (rc2 0)]))) := rfl
theorem wd_27 {tk : Int32} {tp bt crf nt : Nat → Int32} {T PF PS T2 PF2 PS2 : Nat → Option Nat} {C C2 : Nat → Nat → Int32} {rc g pp bn sc rc2 g2 pp2 bn2 sc2 : Nat → Int32} {u : zU} {tl : List zC} : (wld (tk, tp, bt, (T, C, rc, PF, PS, g, pp, bn, sc), (T2, C2, rc2, PF2, PS2, g2, pp2, bn2, sc2), crf, nt) u tl)[27]? = some (.inl (7, C2 0)) := rfl
theorem wd_28 {tk : Int32} {tp bt crf nt : Nat → Int32} {T PF PS T2 PF2 PS2 : Nat → Option Nat} {C C2 : Nat → Nat → Int32} {rc g pp bn sc rc2 g2 pp2 bn2 sc2 : Nat → Int32} {u : zU} {tl : List zC} : (wld (tk, tp, bt, (T, C, rc, PF, PS, g, pp, bn, sc), (T2, C2, rc2, PF2, PS2, g2, pp2, bn2, sc2), crf, nt) u tl)[28]? = some (.inr (.inr (4, [.ref 29, .int (rc2 1)]))) := rfl
theorem wd_29 {tk : Int32} {tp bt crf nt : Nat → Int32} {T PF PS T2 PF2 PS2 : Nat → Option Nat} {C C2 : Nat → Nat → Int32} {rc g pp bn sc rc2 g2 pp2 bn2 sc2 : Nat → Int32} {u : zU} {tl : List zC} : (wld (tk, tp, bt, (T, C, rc, PF, PS, g, pp, bn, sc), (T2, C2, rc2, PF2, PS2, g2, pp2, bn2, sc2), crf, nt) u tl)[29]? = some (.inl (7, C2 1)) := rfl
theorem wd_30 {tk : Int32} {tp bt crf nt : Nat → Int32} {T PF PS T2 PF2 PS2 : Nat → Option Nat} {C C2 : Nat → Nat → Int32} {rc g pp bn sc rc2 g2 pp2 bn2 sc2 : Nat → Int32} {u : zU} {tl : List zC} : (wld (tk, tp, bt, (T, C, rc, PF, PS, g, pp, bn, sc), (T2, C2, rc2, PF2, PS2, g2, pp2, bn2, sc2), crf, nt) u tl)[30]? = some (.inr (.inr (4, [.ref 31, .int (rc2 2)]))) := rfl
theorem wd_31 {tk : Int32} {tp bt crf nt : Nat → Int32} {T PF PS T2 PF2 PS2 : Nat → Option Nat} {C C2 : Nat → Nat → Int32} {rc g pp bn sc rc2 g2 pp2 bn2 sc2 : Nat → Int32} {u : zU} {tl : List zC} : (wld (tk, tp, bt, (T, C, rc, PF, PS, g, pp, bn, sc), (T2, C2, rc2, PF2, PS2, g2, pp2, bn2, sc2), crf, nt) u tl)[31]? = some (.inl (7, C2 2)) := rfl
theorem wd_32 {tk : Int32} {tp bt crf nt : Nat → Int32} {T PF PS T2 PF2 PS2 : Nat → Option Nat} {C C2 : Nat → Nat → Int32} {rc g pp bn sc rc2 g2 pp2 bn2 sc2 : Nat → Int32} {u : zU} {tl : List zC} : (wld (tk, tp, bt, (T, C, rc, PF, PS, g, pp, bn, sc), (T2, C2, rc2, PF2, PS2, g2, pp2, bn2, sc2), crf, nt) u tl)[32]? = some (.inr (.inr (4, [.ref 33, .int (rc2 3)]))) := rfl
theorem wd_33 {tk : Int32} {tp bt crf nt : Nat → Int32} {T PF PS T2 PF2 PS2 : Nat → Option Nat} {C C2 : Nat → Nat → Int32} {rc g pp bn sc rc2 g2 pp2 bn2 sc2 : Nat → Int32} {u : zU} {tl : List zC} : (wld (tk, tp, bt, (T, C, rc, PF, PS, g, pp, bn, sc), (T2, C2, rc2, PF2, PS2, g2, pp2, bn2, sc2), crf, nt) u tl)[33]? = some (.inl (7, C2 3)) := rfl
theorem wd_34 {tk : Int32} {tp bt crf nt : Nat → Int32} {T PF PS T2 PF2 PS2 : Nat → Option Nat} {C C2 : Nat → Nat → Int32} {rc g pp bn sc rc2 g2 pp2 bn2 sc2 : Nat → Int32} {u : zU} {tl : List zC} : (wld (tk, tp, bt, (T, C, rc, PF, PS, g, pp, bn, sc), (T2, C2, rc2, PF2, PS2, g2, pp2, bn2, sc2), crf, nt) u tl)[34]? = some (.inr (.inr (4, [.ref 35, .int (rc2 4)]))) := rfl
theorem wd_35 {tk : Int32} {tp bt crf nt : Nat → Int32} {T PF PS T2 PF2 PS2 : Nat → Option Nat} {C C2 : Nat → Nat → Int32} {rc g pp bn sc rc2 g2 pp2 bn2 sc2 : Nat → Int32} {u : zU} {tl : List zC} : (wld (tk, tp, bt, (T, C, rc, PF, PS, g, pp, bn, sc), (T2, C2, rc2, PF2, PS2, g2, pp2, bn2, sc2), crf, nt) u tl)[35]? = some (.inl (7, C2 4)) := rfl
theorem wd_36 {tk : Int32} {tp bt crf nt : Nat → Int32} {T PF PS T2 PF2 PS2 : Nat → Option Nat} {C C2 : Nat → Nat → Int32} {rc g pp bn sc rc2 g2 pp2 bn2 sc2 : Nat → Int32} {u : zU} {tl : List zC} : (wld (tk, tp, bt, (T, C, rc, PF, PS, g, pp, bn, sc), (T2, C2, rc2, PF2, PS2, g2, pp2, bn2, sc2), crf, nt) u tl)[36]? = some (.inr (.inr (4, [.ref 37, .int (rc2 5)]))) := rfl
theorem wd_37 {tk : Int32} {tp bt crf nt : Nat → Int32} {T PF PS T2 PF2 PS2 : Nat → Option Nat} {C C2 : Nat → Nat → Int32} {rc g pp bn sc rc2 g2 pp2 bn2 sc2 : Nat → Int32} {u : zU} {tl : List zC} : (wld (tk, tp, bt, (T, C, rc, PF, PS, g, pp, bn, sc), (T2, C2, rc2, PF2, PS2, g2, pp2, bn2, sc2), crf, nt) u tl)[37]? = some (.inl (7, C2 5)) := rfl
theorem wd_38 {tk : Int32} {tp bt crf nt : Nat → Int32} {T PF PS T2 PF2 PS2 : Nat → Option Nat} {C C2 : Nat → Nat → Int32} {rc g pp bn sc rc2 g2 pp2 bn2 sc2 : Nat → Int32} {u : zU} {tl : List zC} : (wld (tk, tp, bt, (T, C, rc, PF, PS, g, pp, bn, sc), (T2, C2, rc2, PF2, PS2, g2, pp2, bn2, sc2), crf, nt) u tl)[38]? = some (.inr (.inl (1, 10, PF2))) := rfl
theorem wd_39 {tk : Int32} {tp bt crf nt : Nat → Int32} {T PF PS T2 PF2 PS2 : Nat → Option Nat} {C C2 : Nat → Nat → Int32} {rc g pp bn sc rc2 g2 pp2 bn2 sc2 : Nat → Int32} {u : zU} {tl : List zC} : (wld (tk, tp, bt, (T, C, rc, PF, PS, g, pp, bn, sc), (T2, C2, rc2, PF2, PS2, g2, pp2, bn2, sc2), crf, nt) u tl)[39]? = some (.inr (.inl (1, 10, PS2))) := rfl
theorem wd_40 {tk : Int32} {tp bt crf nt : Nat → Int32} {T PF PS T2 PF2 PS2 : Nat → Option Nat} {C C2 : Nat → Nat → Int32} {rc g pp bn sc rc2 g2 pp2 bn2 sc2 : Nat → Int32} {u : zU} {tl : List zC} : (wld (tk, tp, bt, (T, C, rc, PF, PS, g, pp, bn, sc), (T2, C2, rc2, PF2, PS2, g2, pp2, bn2, sc2), crf, nt) u tl)[40]? = some (.inl (2, g2)) := rfl
theorem wd_41 {tk : Int32} {tp bt crf nt : Nat → Int32} {T PF PS T2 PF2 PS2 : Nat → Option Nat} {C C2 : Nat → Nat → Int32} {rc g pp bn sc rc2 g2 pp2 bn2 sc2 : Nat → Int32} {u : zU} {tl : List zC} : (wld (tk, tp, bt, (T, C, rc, PF, PS, g, pp, bn, sc), (T2, C2, rc2, PF2, PS2, g2, pp2, bn2, sc2), crf, nt) u tl)[41]? = some (.inl (10, pp2)) := rfl
theorem wd_42 {tk : Int32} {tp bt crf nt : Nat → Int32} {T PF PS T2 PF2 PS2 : Nat → Option Nat} {C C2 : Nat → Nat → Int32} {rc g pp bn sc rc2 g2 pp2 bn2 sc2 : Nat → Int32} {u : zU} {tl : List zC} : (wld (tk, tp, bt, (T, C, rc, PF, PS, g, pp, bn, sc), (T2, C2, rc2, PF2, PS2, g2, pp2, bn2, sc2), crf, nt) u tl)[42]? = some (.inr (.inr (0, [.int (bn2 0), .int (bn2 1), .int (bn2 2), .int (bn2 3)]))) := rfl
theorem wd_43 {tk : Int32} {tp bt crf nt : Nat → Int32} {T PF PS T2 PF2 PS2 : Nat → Option Nat} {C C2 : Nat → Nat → Int32} {rc g pp bn sc rc2 g2 pp2 bn2 sc2 : Nat → Int32} {u : zU} {tl : List zC} : (wld (tk, tp, bt, (T, C, rc, PF, PS, g, pp, bn, sc), (T2, C2, rc2, PF2, PS2, g2, pp2, bn2, sc2), crf, nt) u tl)[43]? = some (.inl (7, crf)) := rfl
theorem wd_44 {tk : Int32} {tp bt crf nt : Nat → Int32} {T PF PS T2 PF2 PS2 : Nat → Option Nat} {C C2 : Nat → Nat → Int32} {rc g pp bn sc rc2 g2 pp2 bn2 sc2 : Nat → Int32} {u : zU} {tl : List zC} : (wld (tk, tp, bt, (T, C, rc, PF, PS, g, pp, bn, sc), (T2, C2, rc2, PF2, PS2, g2, pp2, bn2, sc2), crf, nt) u tl)[44]? = some (.inl (30, nt)) := rfl
theorem wd_law {tk : Int32} {tp bt crf nt : Nat → Int32} {T PF PS T2 PF2 PS2 : Nat → Option Nat} {C C2 : Nat → Nat → Int32} {rc g pp bn sc rc2 g2 pp2 bn2 sc2 : Nat → Int32} {u : zU} {tl : List zC} {l : Nat} (hl : l < 6) : (wld (tk, tp, bt, (T, C, rc, PF, PS, g, pp, bn, sc), (T2, C2, rc2, PF2, PS2, g2, pp2, bn2, sc2), crf, nt) u tl)[6 + 2 * l]? = some (.inr (.inr (4, [.ref (7 + 2 * l), .int (rc l)]))) := by
  rcases (show l = 0 ∨ l = 1 ∨ l = 2 ∨ l = 3 ∨ l = 4 ∨ l = 5 by omega) with rfl | rfl | rfl | rfl | rfl | rfl <;> rfl
theorem wd_cond {tk : Int32} {tp bt crf nt : Nat → Int32} {T PF PS T2 PF2 PS2 : Nat → Option Nat} {C C2 : Nat → Nat → Int32} {rc g pp bn sc rc2 g2 pp2 bn2 sc2 : Nat → Int32} {u : zU} {tl : List zC} {l : Nat} (hl : l < 6) : (wld (tk, tp, bt, (T, C, rc, PF, PS, g, pp, bn, sc), (T2, C2, rc2, PF2, PS2, g2, pp2, bn2, sc2), crf, nt) u tl)[7 + 2 * l]? = some (.inl (7, C l)) := by
  rcases (show l = 0 ∨ l = 1 ∨ l = 2 ∨ l = 3 ∨ l = 4 ∨ l = 5 by omega) with rfl | rfl | rfl | rfl | rfl | rfl <;> rfl
theorem wd_law2 {tk : Int32} {tp bt crf nt : Nat → Int32} {T PF PS T2 PF2 PS2 : Nat → Option Nat} {C C2 : Nat → Nat → Int32} {rc g pp bn sc rc2 g2 pp2 bn2 sc2 : Nat → Int32} {u : zU} {tl : List zC} {l : Nat} (hl : l < 6) : (wld (tk, tp, bt, (T, C, rc, PF, PS, g, pp, bn, sc), (T2, C2, rc2, PF2, PS2, g2, pp2, bn2, sc2), crf, nt) u tl)[26 + 2 * l]? = some (.inr (.inr (4, [.ref (27 + 2 * l), .int (rc2 l)]))) := by
  rcases (show l = 0 ∨ l = 1 ∨ l = 2 ∨ l = 3 ∨ l = 4 ∨ l = 5 by omega) with rfl | rfl | rfl | rfl | rfl | rfl <;> rfl
theorem wd_cond2 {tk : Int32} {tp bt crf nt : Nat → Int32} {T PF PS T2 PF2 PS2 : Nat → Option Nat} {C C2 : Nat → Nat → Int32} {rc g pp bn sc rc2 g2 pp2 bn2 sc2 : Nat → Int32} {u : zU} {tl : List zC} {l : Nat} (hl : l < 6) : (wld (tk, tp, bt, (T, C, rc, PF, PS, g, pp, bn, sc), (T2, C2, rc2, PF2, PS2, g2, pp2, bn2, sc2), crf, nt) u tl)[27 + 2 * l]? = some (.inl (7, C2 l)) := by
  rcases (show l = 0 ∨ l = 1 ∨ l = 2 ∨ l = 3 ∨ l = 4 ∨ l = 5 by omega) with rfl | rfl | rfl | rfl | rfl | rfl <;> rfl
set_option maxHeartbeats 400000 in
theorem r_Roo_lawAt_t {tk : Int32} {tp bt crf nt : Nat → Int32} {T PF PS T2 PF2 PS2 : Nat → Option Nat} {C C2 : Nat → Nat → Int32} {rc g pp bn sc rc2 g2 pp2 bn2 sc2 : Nat → Int32} {u : zU} {tl : List zC} (l : Nat) (hl : l < 6) : Ret 0 0 0 m_Roo_lawAt [.ref 23, .int (nI l)] (wld (tk, tp, bt, (T, C, rc, PF, PS, g, pp, bn, sc), (T2, C2, rc2, PF2, PS2, g2, pp2, bn2, sc2), crf, nt) u tl) (some (.ref (26 + 2 * l))) (wld (tk, tp, bt, (T, C, rc, PF, PS, g, pp, bn, sc), (T2, C2, rc2, PF2, PS2, g2, pp2, bn2, sc2), crf, nt) u tl) := by
  refine Ret.of (n := 0) (by decide) (trivial) rfl (fun X => ?_)
  refine z_iload_n d_Roo_lawAt_0 rfl 1 rfl ?_
  refine z_if_lt d_Roo_lawAt_1 22 4 (by decide) rfl (fun hzz => absurd hzz (nI_pos (by omega))) (fun h1 => ?_)
  refine z_iload_n d_Roo_lawAt_4 rfl 5 rfl ?_
  refine z_aload_n d_Roo_lawAt_5 rfl 6 rfl ?_
  refine z_get d_Roo_lawAt_6 9 rfl fl_Roo_19_6 wd_23 rfl ?_
  refine z_alenR d_Roo_lawAt_9 10 rfl wd_25 (Or.inl rfl) 6 (by decide) ?_
  refine z_icmp_ge d_Roo_lawAt_10 22 13 (by decide) rfl (fun hzz => absurd hzz (show ¬ nI 6 ≤ nI l from nI_ge hl (by decide))) (fun h2 => ?_)
  refine z_aload_n d_Roo_lawAt_13 rfl 14 rfl ?_
  refine z_get d_Roo_lawAt_14 17 rfl fl_Roo_19_6 wd_23 rfl ?_
  refine z_iload_n d_Roo_lawAt_17 rfl 18 rfl ?_
  refine z_aaload d_Roo_lawAt_18 (l) 19 rfl wd_25 (Or.inl rfl) (rfl) (by omega) (by decide) (by simp [lrow, hl]; rfl) ?_
  refine z_goto d_Roo_lawAt_19 23 (by decide) ?_
  exact z_areturn d_Roo_lawAt_23 (rfl) (rfl)
set_option maxHeartbeats 400000 in
theorem r_Ben_tell_t {tk : Int32} {tp bt crf nt : Nat → Int32} {T PF PS T2 PF2 PS2 : Nat → Option Nat} {C C2 : Nat → Nat → Int32} {rc g pp bn sc rc2 g2 pp2 bn2 sc2 : Nat → Int32} {u : zU} {tl : List zC} (z e c m : Int32) : Ret 0 0 0 m_Ben_tell [.ref 42, .int z, .int e, .int c, .int m] (wld (tk, tp, bt, (T, C, rc, PF, PS, g, pp, bn, sc), (T2, C2, rc2, PF2, PS2, g2, pp2, bn2, sc2), crf, nt) u tl) (none) (wld (tk, tp, bt, (T, C, rc, PF, PS, g, pp, bn, sc), (T2, C2, rc2, PF2, PS2, g2, pp2, upd (upd (upd (upd bn2 0 z) 1 e) 2 c) 3 m, sc2), crf, nt) u tl) := by
  refine Ret.of (n := 0) (by decide) (trivial) rfl (fun X => ?_)
  refine z_aload_n d_Ben_tell_0 rfl 1 rfl ?_
  refine z_iload_n d_Ben_tell_1 rfl 2 rfl ?_
  refine z_putI d_Ben_tell_2 5 rfl fp_Ben_9_0 (Or.inl rfl) wd_42 (by simp) ?_
  refine z_hp wp_42_0 ?_
  refine z_aload_n d_Ben_tell_5 rfl 6 rfl ?_
  refine z_iload_n d_Ben_tell_6 rfl 7 rfl ?_
  refine z_putI d_Ben_tell_7 10 rfl fp_Ben_15_0 (Or.inl rfl) wd_42 (by simp) ?_
  refine z_hp wp_42_1 ?_
  refine z_aload_n d_Ben_tell_10 rfl 11 rfl ?_
  refine z_iload_n d_Ben_tell_11 rfl 12 rfl ?_
  refine z_putI d_Ben_tell_12 15 rfl fp_Ben_18_0 (Or.inl rfl) wd_42 (by simp) ?_
  refine z_hp wp_42_2 ?_
  refine z_aload_n d_Ben_tell_15 rfl 16 rfl ?_
  refine z_iload d_Ben_tell_16 rfl 18 rfl ?_
  refine z_putI d_Ben_tell_18 21 rfl fp_Ben_21_0 (Or.inl rfl) wd_42 (by simp) ?_
  refine z_hp wp_42_3 ?_
  exact z_return d_Ben_tell_21 rfl rfl
set_option maxHeartbeats 400000 in
theorem r_Roo_becomeLike_im {tk : Int32} {tp bt crf nt : Nat → Int32} {T PF PS T2 PF2 PS2 : Nat → Option Nat} {C C2 : Nat → Nat → Int32} {rc g pp bn sc rc2 g2 pp2 bn2 sc2 : Nat → Int32} {u : zU} {tl : List zC} (hT : TO tl T 30) (hPF : TO tl PF 10) (hPS : TO tl PS 10) (hb : sc 3 = 0 ∨ sc 3 = 1) : Ret 3 0 0 m_Roo_becomeLike [.ref 23, .ref 3] (wld (tk, tp, bt, (T, C, rc, PF, PS, g, pp, bn, sc), (T2, C2, rc2, PF2, PS2, g2, pp2, bn2, sc2), crf, nt) u tl) (none) (wld (tk, tp, bt, (T, C, rc, PF, PS, g, pp, bn, sc), (cpO T T2 30, cpC C C2 6, cp rc rc2 6, cpO PF PF2 10, cpO PS PS2 10, cp g g2 2, cp pp pp2 10, upd (upd (upd (upd bn2 0 (bn 0)) 1 (bn 1)) 2 (bn 2)) 3 (bn 3), upd (upd (upd (upd sc2 0 (sc 0)) 1 (sc 1)) 2 (sc 2)) 3 (sc 3)), crf, nt) u tl) := by
  refine Ret.of (n := 3) (by decide) (trivial) rfl (fun X => ?_)
  refine z_aload_n d_Roo_becomeLike_0 rfl 1 rfl ?_
  refine z_get d_Roo_becomeLike_1 4 rfl fl_Roo_11_6 wd_3 rfl ?_
  refine z_aload_n d_Roo_becomeLike_4 rfl 5 rfl ?_
  refine z_get d_Roo_becomeLike_5 8 rfl fl_Roo_11_6 wd_23 rfl ?_
  refine z_invsv d_Roo_becomeLike_8 11 rfl hm_Roo_copyTellings lk_Roo_44 st_Roo_copyTellings (r_Roo_copyTellings wd_4 wd_24 (by decide) (by decide) hT.h) rfl rfl (by decide) rfl rfl (Nat.le_of_ble_eq_true rfl) ?_
  refine z_hp ws_24 ?_
  refine z_aload_n d_Roo_becomeLike_11 rfl 12 rfl ?_
  refine z_get d_Roo_becomeLike_12 15 rfl fl_Roo_24_6 wd_3 rfl ?_
  refine z_aload_n d_Roo_becomeLike_15 rfl 16 rfl ?_
  refine z_get d_Roo_becomeLike_16 19 rfl fl_Roo_24_6 wd_23 rfl ?_
  refine z_invsv d_Roo_becomeLike_19 22 rfl hm_Roo_copyTellings lk_Roo_44 st_Roo_copyTellings (r_Roo_copyTellings wd_18 wd_38 (by decide) (by decide) hPF.h) rfl rfl (by decide) rfl rfl (Nat.le_of_ble_eq_true rfl) ?_
  refine z_hp ws_38 ?_
  refine z_aload_n d_Roo_becomeLike_22 rfl 23 rfl ?_
  refine z_get d_Roo_becomeLike_23 26 rfl fl_Roo_27_6 wd_3 rfl ?_
  refine z_aload_n d_Roo_becomeLike_26 rfl 27 rfl ?_
  refine z_get d_Roo_becomeLike_27 30 rfl fl_Roo_27_6 wd_23 rfl ?_
  refine z_invsv d_Roo_becomeLike_30 33 rfl hm_Roo_copyTellings lk_Roo_44 st_Roo_copyTellings (r_Roo_copyTellings wd_19 wd_39 (by decide) (by decide) hPS.h) rfl rfl (by decide) rfl rfl (Nat.le_of_ble_eq_true rfl) ?_
  refine z_hp ws_39 ?_
  refine z_iconst d_Roo_becomeLike_33 0 (by decide) 34 rfl ?_
  refine z_istore_n d_Roo_becomeLike_34 35 rfl (by decide) rfl ?_
  refine z_hp (hp1 := wld (tk, tp, bt, (T, C, rc, PF, PS, g, pp, bn, sc), (cpO T T2 30, cpC C C2 (0), cp rc rc2 (0), cpO PF PF2 10, cpO PS PS2 10, g2, pp2, bn2, sc2), crf, nt) u tl) (by rw [cpC_0, cp_0]) ?_
  refine zloop (fun i => Z X m_Roo_becomeLike 3 0 0 (none) (wld (tk, tp, bt, (T, C, rc, PF, PS, g, pp, bn, sc), (cpO T T2 30, cpC C C2 6, cp rc rc2 6, cpO PF PF2 10, cpO PS PS2 10, cp g g2 2, cp pp pp2 10, upd (upd (upd (upd bn2 0 (bn 0)) 1 (bn 1)) 2 (bn 2)) 3 (bn 3), upd (upd (upd (upd sc2 0 (sc 0)) 1 (sc 1)) 2 (sc 2)) 3 (sc 3)), crf, nt) u tl) 35 [some (.ref 23), some (.ref 3), some (.int (nI i)), none, none] [] (wld (tk, tp, bt, (T, C, rc, PF, PS, g, pp, bn, sc), (cpO T T2 30, cpC C C2 (i), cp rc rc2 (i), cpO PF PF2 10, cpO PS PS2 10, g2, pp2, bn2, sc2), crf, nt) u tl)) (6) ?_ ?_ 0 (Nat.zero_le _)
  · refine z_iload_n d_Roo_becomeLike_35 rfl 36 rfl ?_
    refine z_bipush d_Roo_becomeLike_36 6 (by decide) 38 rfl ?_
    refine z_icmp_ge d_Roo_becomeLike_38 75 41 (by decide) rfl (fun h1 => ?_) (fun hzz => absurd (by decide) hzz)
    refine z_aload_n d_Roo_becomeLike_75 rfl 76 rfl ?_
    refine z_get d_Roo_becomeLike_76 79 rfl fl_Roo_30_6 wd_3 rfl ?_
    refine z_aload_n d_Roo_becomeLike_79 rfl 80 rfl ?_
    refine z_get d_Roo_becomeLike_80 83 rfl fl_Roo_30_6 wd_23 rfl ?_
    refine z_invSNv d_Roo_becomeLike_83 86 rfl hm_Lir_copyRow (by decide) st_Lir_copyRow (r_Lir_copyRow wd_20 wd_40 (by decide)) rfl rfl (by decide) rfl rfl (Nat.le_of_ble_eq_true rfl) ?_
    refine z_hp ws_40 ?_
    refine z_aload_n d_Roo_becomeLike_86 rfl 87 rfl ?_
    refine z_get d_Roo_becomeLike_87 90 rfl fl_Roo_34_6 wd_3 rfl ?_
    refine z_aload_n d_Roo_becomeLike_90 rfl 91 rfl ?_
    refine z_get d_Roo_becomeLike_91 94 rfl fl_Roo_34_6 wd_23 rfl ?_
    refine z_invSNv d_Roo_becomeLike_94 97 rfl hm_Lir_copyRow (by decide) st_Lir_copyRow (r_Lir_copyRow wd_21 wd_41 (by decide)) rfl rfl (by decide) rfl rfl (Nat.le_of_ble_eq_true rfl) ?_
    refine z_hp ws_41 ?_
    refine z_aload_n d_Roo_becomeLike_97 rfl 98 rfl ?_
    refine z_get d_Roo_becomeLike_98 101 rfl fl_Roo_40_6 wd_3 rfl ?_
    refine z_astore_n d_Roo_becomeLike_101 102 rfl (by decide) rfl ?_
    refine z_aload_n d_Roo_becomeLike_102 rfl 103 rfl ?_
    refine z_get d_Roo_becomeLike_103 106 rfl fl_Roo_40_6 wd_23 rfl ?_
    refine z_aload_n d_Roo_becomeLike_106 rfl 107 rfl ?_
    refine z_get d_Roo_becomeLike_107 110 rfl fl_Roo_60_0 wd_22 rfl ?_
    refine z_aload_n d_Roo_becomeLike_110 rfl 111 rfl ?_
    refine z_get d_Roo_becomeLike_111 114 rfl fl_Roo_64_0 wd_22 rfl ?_
    refine z_aload_n d_Roo_becomeLike_114 rfl 115 rfl ?_
    refine z_get d_Roo_becomeLike_115 118 rfl fl_Roo_67_0 wd_22 rfl ?_
    refine z_aload_n d_Roo_becomeLike_118 rfl 119 rfl ?_
    refine z_get d_Roo_becomeLike_119 122 rfl fl_Roo_70_0 wd_22 rfl ?_
    refine z_invvv d_Roo_becomeLike_122 125 rfl hm_Ben_tell lk_Roo_73 im_Ben_tell sl_Ben_Ben_tell rfl wd_42 (r_Ben_tell_t _ _ _ _) rfl rfl (by decide) rfl rfl (Nat.le_of_ble_eq_true rfl) ?_
    refine z_aload_n d_Roo_becomeLike_125 rfl 126 rfl ?_
    refine z_aload_n d_Roo_becomeLike_126 rfl 127 rfl ?_
    refine z_get d_Roo_becomeLike_127 130 rfl fl_Roo_77_6 wd_3 rfl ?_
    refine z_putI d_Roo_becomeLike_130 133 rfl fp_Roo_77_6 (Or.inl rfl) wd_23 (by simp) ?_
    refine z_hp wp_23_7 ?_
    refine z_aload_n d_Roo_becomeLike_133 rfl 134 rfl ?_
    refine z_aload_n d_Roo_becomeLike_134 rfl 135 rfl ?_
    refine z_get d_Roo_becomeLike_135 138 rfl fl_Roo_80_6 wd_3 rfl ?_
    refine z_putI d_Roo_becomeLike_138 141 rfl fp_Roo_80_6 (Or.inl rfl) wd_23 (by simp) ?_
    refine z_hp wp_23_8 ?_
    refine z_aload_n d_Roo_becomeLike_141 rfl 142 rfl ?_
    refine z_aload_n d_Roo_becomeLike_142 rfl 143 rfl ?_
    refine z_get d_Roo_becomeLike_143 146 rfl fl_Roo_83_6 wd_3 rfl ?_
    refine z_putI d_Roo_becomeLike_146 149 rfl fp_Roo_83_6 (Or.inl rfl) wd_23 (by simp) ?_
    refine z_hp wp_23_9 ?_
    refine z_aload_n d_Roo_becomeLike_149 rfl 150 rfl ?_
    refine z_aload_n d_Roo_becomeLike_150 rfl 151 rfl ?_
    refine z_get d_Roo_becomeLike_151 154 rfl fl_Roo_86_6 wd_3 rfl ?_
    refine z_put d_Roo_becomeLike_154 157 rfl fp_Roo_86_6 (Or.inl rfl) wd_23 (fun _ _ => by show narrow .boolean (.int (sc 3)) = .int (sc 3); rcases hb with h | h <;> rw [h] <;> rfl) (fun _ _ => by show fits .boolean (.int (sc 3)) = true; rcases hb with h | h <;> rw [h] <;> rfl) (by simp) ?_
    refine z_hp wp_23_10 ?_
    exact z_return d_Roo_becomeLike_157 rfl rfl
  · intro i hi ih
    refine z_iload_n d_Roo_becomeLike_35 rfl 36 rfl ?_
    refine z_bipush d_Roo_becomeLike_36 6 (by decide) 38 rfl ?_
    refine z_icmp_ge d_Roo_becomeLike_38 75 41 (by decide) rfl (fun hzz => absurd hzz (show ¬ nI 6 ≤ nI i from nI_ge hi (by decide))) (fun h2 => ?_)
    refine z_aload_n d_Roo_becomeLike_41 rfl 42 rfl ?_
    refine z_iload_n d_Roo_becomeLike_42 rfl 43 rfl ?_
    refine z_invv d_Roo_becomeLike_43 46 rfl hm_Roo_lawAt lk_Roo_48 im_Roo_lawAt sl_Roo_Roo_lawAt rfl wd_23 (r_Roo_lawAt_t i hi) rfl rfl (by decide) rfl rfl (Nat.le_of_ble_eq_true rfl) ?_
    refine z_astore_n d_Roo_becomeLike_46 47 rfl (by decide) rfl ?_
    refine z_aload_n d_Roo_becomeLike_47 rfl 48 rfl ?_
    refine z_iload_n d_Roo_becomeLike_48 rfl 49 rfl ?_
    refine z_invv d_Roo_becomeLike_49 52 rfl hm_Roo_lawAt lk_Roo_48 im_Roo_lawAt sl_Roo_Roo_lawAt rfl wd_3 (r_Roo_lawAt_s i hi) rfl rfl (by decide) rfl rfl (Nat.le_of_ble_eq_true rfl) ?_
    refine z_astore d_Roo_becomeLike_52 54 rfl (by decide) rfl ?_
    refine z_aload_n d_Roo_becomeLike_54 rfl 55 rfl ?_
    refine z_ifnull d_Roo_becomeLike_55 58 rfl ?_
    refine z_aload d_Roo_becomeLike_58 rfl 60 rfl ?_
    refine z_ifnull d_Roo_becomeLike_60 63 rfl ?_
    refine z_aload_n d_Roo_becomeLike_63 rfl 64 rfl ?_
    refine z_aload d_Roo_becomeLike_64 rfl 66 rfl ?_
    refine z_invvv d_Roo_becomeLike_66 69 rfl hm_Law_becomeLike lk_Roo_52 im_Law_becomeLike sl_Law_Law_becomeLike rfl (wd_law2 hi) (r_Law_becomeLike (wd_law2 hi) (wd_law hi) (wd_cond2 hi) (wd_cond hi)) rfl rfl (by decide) rfl rfl (Nat.le_of_ble_eq_true rfl) ?_
    refine z_hp ((congrArg (fun z => List.set z _ _) (ws_cond23 hi)).trans (wp_law23 hi)) ?_
    refine z_iinc d_Roo_becomeLike_69 1 (by decide) 72 rfl rfl (by decide) rfl ?_
    refine z_goto d_Roo_becomeLike_72 35 (by decide) ?_
    have e1 : (fun j => if j = i then cp (C i) (cpC C C2 i i) 7 else cpC C C2 i j) = cpC C C2 (i + 1) := by rw [cpC_k, cpC_s]
    rw [← e1, ← cp_s rc rc2 i] at ih
    exact z_Lg _ ih (by simp [zLw, List.set, nI_succ])
set_option maxHeartbeats 400000 in
theorem r_Lir_image {tk : Int32} {tp bt crf nt : Nat → Int32} {T PF PS T2 PF2 PS2 : Nat → Option Nat} {C C2 : Nat → Nat → Int32} {rc g pp bn sc rc2 g2 pp2 bn2 sc2 : Nat → Int32} {u : zU} {tl : List zC} (hT : TO tl T 30) (hPF : TO tl PF 10) (hPS : TO tl PS 10) (hb : sc 3 = 0 ∨ sc 3 = 1) : Ret 6 0 0 m_Lir_image [.ref 0] (wld (tk, tp, bt, (T, C, rc, PF, PS, g, pp, bn, sc), (T2, C2, rc2, PF2, PS2, g2, pp2, bn2, sc2), crf, nt) u tl) (some (.int (sc 0))) (wld (1, tp, bt, (T, C, rc, PF, PS, g, pp, bn, sc), (cpO T T2 30, cpC C C2 6, cp rc rc2 6, cpO PF PF2 10, cpO PS PS2 10, cp g g2 2, cp pp pp2 10, upd (upd (upd (upd bn2 0 (bn 0)) 1 (bn 1)) 2 (bn 2)) 3 (bn 3), upd (upd (upd (upd sc2 0 (sc 0)) 1 (sc 1)) 2 (sc 2)) 3 (sc 3)), crf, nt) u tl) := by
  refine Ret.of (n := 0) (by decide) (rfl) rfl (fun X => ?_)
  refine z_aload_n d_Lir_image_0 rfl 1 rfl ?_
  refine z_get d_Lir_image_1 4 rfl fl_Lir_23_10 wd_0 rfl ?_
  refine z_aload_n d_Lir_image_4 rfl 5 rfl ?_
  refine z_get d_Lir_image_5 8 rfl fl_Lir_19_10 wd_0 rfl ?_
  refine z_invvv d_Lir_image_8 11 rfl hm_Roo_becomeLike lk_Lir_255 im_Roo_becomeLike sl_Roo_Roo_becomeLike rfl wd_23 (r_Roo_becomeLike_im hT hPF hPS hb) rfl rfl (by decide) rfl rfl (Nat.le_of_ble_eq_true rfl) ?_
  refine z_aload_n d_Lir_image_11 rfl 12 rfl ?_
  refine z_iconst d_Lir_image_12 1 (by decide) 13 rfl ?_
  refine z_put d_Lir_image_13 16 rfl fp_Lir_33_10 (Or.inl rfl) wd_0 (fun _ _ => rfl) (fun _ _ => rfl) (by simp) ?_
  refine z_hp wp_0_5 ?_
  refine z_aload_n d_Lir_image_16 rfl 17 rfl ?_
  refine z_get d_Lir_image_17 20 rfl fl_Lir_19_10 wd_0 rfl ?_
  refine z_get d_Lir_image_20 23 rfl fl_Lir_53_6 wd_3 rfl ?_
  exact z_ireturn d_Lir_image_23 (rfl) (rfl)
set_option maxHeartbeats 400000 in
theorem r_Roo_becomeLike_on {tk : Int32} {tp bt crf nt : Nat → Int32} {T PF PS T2 PF2 PS2 : Nat → Option Nat} {C C2 : Nat → Nat → Int32} {rc g pp bn sc rc2 g2 pp2 bn2 sc2 : Nat → Int32} {u : zU} {tl : List zC} (hT : TO tl T2 30) (hPF : TO tl PF2 10) (hPS : TO tl PS2 10) (hb : sc2 3 = 0 ∨ sc2 3 = 1) : Ret 3 0 0 m_Roo_becomeLike [.ref 3, .ref 23] (wld (tk, tp, bt, (T, C, rc, PF, PS, g, pp, bn, sc), (T2, C2, rc2, PF2, PS2, g2, pp2, bn2, sc2), crf, nt) u tl) (none) (wld (tk, tp, bt, (cpO T2 T 30, cpC C2 C 6, cp rc2 rc 6, cpO PF2 PF 10, cpO PS2 PS 10, cp g2 g 2, cp pp2 pp 10, upd (upd (upd (upd bn 0 (bn2 0)) 1 (bn2 1)) 2 (bn2 2)) 3 (bn2 3), upd (upd (upd (upd sc 0 (sc2 0)) 1 (sc2 1)) 2 (sc2 2)) 3 (sc2 3)), (T2, C2, rc2, PF2, PS2, g2, pp2, bn2, sc2), crf, nt) u tl) := by
  refine Ret.of (n := 3) (by decide) (trivial) rfl (fun X => ?_)
  refine z_aload_n d_Roo_becomeLike_0 rfl 1 rfl ?_
  refine z_get d_Roo_becomeLike_1 4 rfl fl_Roo_11_6 wd_23 rfl ?_
  refine z_aload_n d_Roo_becomeLike_4 rfl 5 rfl ?_
  refine z_get d_Roo_becomeLike_5 8 rfl fl_Roo_11_6 wd_3 rfl ?_
  refine z_invsv d_Roo_becomeLike_8 11 rfl hm_Roo_copyTellings lk_Roo_44 st_Roo_copyTellings (r_Roo_copyTellings wd_24 wd_4 (by decide) (by decide) hT.h) rfl rfl (by decide) rfl rfl (Nat.le_of_ble_eq_true rfl) ?_
  refine z_hp ws_4 ?_
  refine z_aload_n d_Roo_becomeLike_11 rfl 12 rfl ?_
  refine z_get d_Roo_becomeLike_12 15 rfl fl_Roo_24_6 wd_23 rfl ?_
  refine z_aload_n d_Roo_becomeLike_15 rfl 16 rfl ?_
  refine z_get d_Roo_becomeLike_16 19 rfl fl_Roo_24_6 wd_3 rfl ?_
  refine z_invsv d_Roo_becomeLike_19 22 rfl hm_Roo_copyTellings lk_Roo_44 st_Roo_copyTellings (r_Roo_copyTellings wd_38 wd_18 (by decide) (by decide) hPF.h) rfl rfl (by decide) rfl rfl (Nat.le_of_ble_eq_true rfl) ?_
  refine z_hp ws_18 ?_
  refine z_aload_n d_Roo_becomeLike_22 rfl 23 rfl ?_
  refine z_get d_Roo_becomeLike_23 26 rfl fl_Roo_27_6 wd_23 rfl ?_
  refine z_aload_n d_Roo_becomeLike_26 rfl 27 rfl ?_
  refine z_get d_Roo_becomeLike_27 30 rfl fl_Roo_27_6 wd_3 rfl ?_
  refine z_invsv d_Roo_becomeLike_30 33 rfl hm_Roo_copyTellings lk_Roo_44 st_Roo_copyTellings (r_Roo_copyTellings wd_39 wd_19 (by decide) (by decide) hPS.h) rfl rfl (by decide) rfl rfl (Nat.le_of_ble_eq_true rfl) ?_
  refine z_hp ws_19 ?_
  refine z_iconst d_Roo_becomeLike_33 0 (by decide) 34 rfl ?_
  refine z_istore_n d_Roo_becomeLike_34 35 rfl (by decide) rfl ?_
  refine z_hp (hp1 := wld (tk, tp, bt, (cpO T2 T 30, cpC C2 C (0), cp rc2 rc (0), cpO PF2 PF 10, cpO PS2 PS 10, g, pp, bn, sc), (T2, C2, rc2, PF2, PS2, g2, pp2, bn2, sc2), crf, nt) u tl) (by rw [cpC_0, cp_0]) ?_
  refine zloop (fun i => Z X m_Roo_becomeLike 3 0 0 (none) (wld (tk, tp, bt, (cpO T2 T 30, cpC C2 C 6, cp rc2 rc 6, cpO PF2 PF 10, cpO PS2 PS 10, cp g2 g 2, cp pp2 pp 10, upd (upd (upd (upd bn 0 (bn2 0)) 1 (bn2 1)) 2 (bn2 2)) 3 (bn2 3), upd (upd (upd (upd sc 0 (sc2 0)) 1 (sc2 1)) 2 (sc2 2)) 3 (sc2 3)), (T2, C2, rc2, PF2, PS2, g2, pp2, bn2, sc2), crf, nt) u tl) 35 [some (.ref 3), some (.ref 23), some (.int (nI i)), none, none] [] (wld (tk, tp, bt, (cpO T2 T 30, cpC C2 C (i), cp rc2 rc (i), cpO PF2 PF 10, cpO PS2 PS 10, g, pp, bn, sc), (T2, C2, rc2, PF2, PS2, g2, pp2, bn2, sc2), crf, nt) u tl)) (6) ?_ ?_ 0 (Nat.zero_le _)
  · refine z_iload_n d_Roo_becomeLike_35 rfl 36 rfl ?_
    refine z_bipush d_Roo_becomeLike_36 6 (by decide) 38 rfl ?_
    refine z_icmp_ge d_Roo_becomeLike_38 75 41 (by decide) rfl (fun h1 => ?_) (fun hzz => absurd (by decide) hzz)
    refine z_aload_n d_Roo_becomeLike_75 rfl 76 rfl ?_
    refine z_get d_Roo_becomeLike_76 79 rfl fl_Roo_30_6 wd_23 rfl ?_
    refine z_aload_n d_Roo_becomeLike_79 rfl 80 rfl ?_
    refine z_get d_Roo_becomeLike_80 83 rfl fl_Roo_30_6 wd_3 rfl ?_
    refine z_invSNv d_Roo_becomeLike_83 86 rfl hm_Lir_copyRow (by decide) st_Lir_copyRow (r_Lir_copyRow wd_40 wd_20 (by decide)) rfl rfl (by decide) rfl rfl (Nat.le_of_ble_eq_true rfl) ?_
    refine z_hp ws_20 ?_
    refine z_aload_n d_Roo_becomeLike_86 rfl 87 rfl ?_
    refine z_get d_Roo_becomeLike_87 90 rfl fl_Roo_34_6 wd_23 rfl ?_
    refine z_aload_n d_Roo_becomeLike_90 rfl 91 rfl ?_
    refine z_get d_Roo_becomeLike_91 94 rfl fl_Roo_34_6 wd_3 rfl ?_
    refine z_invSNv d_Roo_becomeLike_94 97 rfl hm_Lir_copyRow (by decide) st_Lir_copyRow (r_Lir_copyRow wd_41 wd_21 (by decide)) rfl rfl (by decide) rfl rfl (Nat.le_of_ble_eq_true rfl) ?_
    refine z_hp ws_21 ?_
    refine z_aload_n d_Roo_becomeLike_97 rfl 98 rfl ?_
    refine z_get d_Roo_becomeLike_98 101 rfl fl_Roo_40_6 wd_23 rfl ?_
    refine z_astore_n d_Roo_becomeLike_101 102 rfl (by decide) rfl ?_
    refine z_aload_n d_Roo_becomeLike_102 rfl 103 rfl ?_
    refine z_get d_Roo_becomeLike_103 106 rfl fl_Roo_40_6 wd_3 rfl ?_
    refine z_aload_n d_Roo_becomeLike_106 rfl 107 rfl ?_
    refine z_get d_Roo_becomeLike_107 110 rfl fl_Roo_60_0 wd_42 rfl ?_
    refine z_aload_n d_Roo_becomeLike_110 rfl 111 rfl ?_
    refine z_get d_Roo_becomeLike_111 114 rfl fl_Roo_64_0 wd_42 rfl ?_
    refine z_aload_n d_Roo_becomeLike_114 rfl 115 rfl ?_
    refine z_get d_Roo_becomeLike_115 118 rfl fl_Roo_67_0 wd_42 rfl ?_
    refine z_aload_n d_Roo_becomeLike_118 rfl 119 rfl ?_
    refine z_get d_Roo_becomeLike_119 122 rfl fl_Roo_70_0 wd_42 rfl ?_
    refine z_invvv d_Roo_becomeLike_122 125 rfl hm_Ben_tell lk_Roo_73 im_Ben_tell sl_Ben_Ben_tell rfl wd_22 (r_Ben_tell _ _ _ _) rfl rfl (by decide) rfl rfl (Nat.le_of_ble_eq_true rfl) ?_
    refine z_aload_n d_Roo_becomeLike_125 rfl 126 rfl ?_
    refine z_aload_n d_Roo_becomeLike_126 rfl 127 rfl ?_
    refine z_get d_Roo_becomeLike_127 130 rfl fl_Roo_77_6 wd_23 rfl ?_
    refine z_putI d_Roo_becomeLike_130 133 rfl fp_Roo_77_6 (Or.inl rfl) wd_3 (by simp) ?_
    refine z_hp wp_3_7 ?_
    refine z_aload_n d_Roo_becomeLike_133 rfl 134 rfl ?_
    refine z_aload_n d_Roo_becomeLike_134 rfl 135 rfl ?_
    refine z_get d_Roo_becomeLike_135 138 rfl fl_Roo_80_6 wd_23 rfl ?_
    refine z_putI d_Roo_becomeLike_138 141 rfl fp_Roo_80_6 (Or.inl rfl) wd_3 (by simp) ?_
    refine z_hp wp_3_8 ?_
    refine z_aload_n d_Roo_becomeLike_141 rfl 142 rfl ?_
    refine z_aload_n d_Roo_becomeLike_142 rfl 143 rfl ?_
    refine z_get d_Roo_becomeLike_143 146 rfl fl_Roo_83_6 wd_23 rfl ?_
    refine z_putI d_Roo_becomeLike_146 149 rfl fp_Roo_83_6 (Or.inl rfl) wd_3 (by simp) ?_
    refine z_hp wp_3_9 ?_
    refine z_aload_n d_Roo_becomeLike_149 rfl 150 rfl ?_
    refine z_aload_n d_Roo_becomeLike_150 rfl 151 rfl ?_
    refine z_get d_Roo_becomeLike_151 154 rfl fl_Roo_86_6 wd_23 rfl ?_
    refine z_put d_Roo_becomeLike_154 157 rfl fp_Roo_86_6 (Or.inl rfl) wd_3 (fun _ _ => by show narrow .boolean (.int (sc2 3)) = .int (sc2 3); rcases hb with h | h <;> rw [h] <;> rfl) (fun _ _ => by show fits .boolean (.int (sc2 3)) = true; rcases hb with h | h <;> rw [h] <;> rfl) (by simp) ?_
    refine z_hp wp_3_10 ?_
    exact z_return d_Roo_becomeLike_157 rfl rfl
  · intro i hi ih
    refine z_iload_n d_Roo_becomeLike_35 rfl 36 rfl ?_
    refine z_bipush d_Roo_becomeLike_36 6 (by decide) 38 rfl ?_
    refine z_icmp_ge d_Roo_becomeLike_38 75 41 (by decide) rfl (fun hzz => absurd hzz (show ¬ nI 6 ≤ nI i from nI_ge hi (by decide))) (fun h2 => ?_)
    refine z_aload_n d_Roo_becomeLike_41 rfl 42 rfl ?_
    refine z_iload_n d_Roo_becomeLike_42 rfl 43 rfl ?_
    refine z_invv d_Roo_becomeLike_43 46 rfl hm_Roo_lawAt lk_Roo_48 im_Roo_lawAt sl_Roo_Roo_lawAt rfl wd_3 (r_Roo_lawAt_s i hi) rfl rfl (by decide) rfl rfl (Nat.le_of_ble_eq_true rfl) ?_
    refine z_astore_n d_Roo_becomeLike_46 47 rfl (by decide) rfl ?_
    refine z_aload_n d_Roo_becomeLike_47 rfl 48 rfl ?_
    refine z_iload_n d_Roo_becomeLike_48 rfl 49 rfl ?_
    refine z_invv d_Roo_becomeLike_49 52 rfl hm_Roo_lawAt lk_Roo_48 im_Roo_lawAt sl_Roo_Roo_lawAt rfl wd_23 (r_Roo_lawAt_t i hi) rfl rfl (by decide) rfl rfl (Nat.le_of_ble_eq_true rfl) ?_
    refine z_astore d_Roo_becomeLike_52 54 rfl (by decide) rfl ?_
    refine z_aload_n d_Roo_becomeLike_54 rfl 55 rfl ?_
    refine z_ifnull d_Roo_becomeLike_55 58 rfl ?_
    refine z_aload d_Roo_becomeLike_58 rfl 60 rfl ?_
    refine z_ifnull d_Roo_becomeLike_60 63 rfl ?_
    refine z_aload_n d_Roo_becomeLike_63 rfl 64 rfl ?_
    refine z_aload d_Roo_becomeLike_64 rfl 66 rfl ?_
    refine z_invvv d_Roo_becomeLike_66 69 rfl hm_Law_becomeLike lk_Roo_52 im_Law_becomeLike sl_Law_Law_becomeLike rfl (wd_law hi) (r_Law_becomeLike (wd_law hi) (wd_law2 hi) (wd_cond hi) (wd_cond2 hi)) rfl rfl (by decide) rfl rfl (Nat.le_of_ble_eq_true rfl) ?_
    refine z_hp ((congrArg (fun z => List.set z _ _) (ws_cond3 hi)).trans (wp_law3 hi)) ?_
    refine z_iinc d_Roo_becomeLike_69 1 (by decide) 72 rfl rfl (by decide) rfl ?_
    refine z_goto d_Roo_becomeLike_72 35 (by decide) ?_
    have e1 : (fun j => if j = i then cp (C2 i) (cpC C2 C i i) 7 else cpC C2 C i j) = cpC C2 C (i + 1) := by rw [cpC_k, cpC_s]
    rw [← e1, ← cp_s rc2 rc i] at ih
    exact z_Lg _ ih (by simp [zLw, List.set, nI_succ])
set_option maxHeartbeats 400000 in
theorem r_Lir_on_0 {tk : Int32} {tp bt crf nt : Nat → Int32} {T PF PS T2 PF2 PS2 : Nat → Option Nat} {C C2 : Nat → Nat → Int32} {rc g pp bn sc rc2 g2 pp2 bn2 sc2 : Nat → Int32} {u : zU} {tl : List zC} (hT : TO tl T2 30) (hPF : TO tl PF2 10) (hPS : TO tl PS2 10) (hb : sc2 3 = 0 ∨ sc2 3 = 1) (htk : ¬ tk = 0) : Ret 6 0 0 m_Lir_on [.ref 0] (wld (tk, tp, bt, (T, C, rc, PF, PS, g, pp, bn, sc), (T2, C2, rc2, PF2, PS2, g2, pp2, bn2, sc2), crf, nt) u tl) (some (.int (sc2 0))) (wld (tk, tp, bt, (cpO T2 T 30, cpC C2 C 6, cp rc2 rc 6, cpO PF2 PF 10, cpO PS2 PS 10, cp g2 g 2, cp pp2 pp 10, upd (upd (upd (upd bn 0 (bn2 0)) 1 (bn2 1)) 2 (bn2 2)) 3 (bn2 3), upd (upd (upd (upd sc 0 (sc2 0)) 1 (sc2 1)) 2 (sc2 2)) 3 (sc2 3)), (T2, C2, rc2, PF2, PS2, g2, pp2, bn2, sc2), crf, nt) u tl) := by
  refine Ret.of (n := 0) (by decide) (rfl) rfl (fun X => ?_)
  refine z_aload_n d_Lir_on_0 rfl 1 rfl ?_
  refine z_get d_Lir_on_1 4 rfl fl_Lir_33_10 wd_0 rfl ?_
  refine z_if_ne d_Lir_on_4 14 7 (by decide) rfl (fun h1 => ?_) (fun hzz => absurd hzz htk)
  refine z_aload_n d_Lir_on_14 rfl 15 rfl ?_
  refine z_get d_Lir_on_15 18 rfl fl_Lir_19_10 wd_0 rfl ?_
  refine z_aload_n d_Lir_on_18 rfl 19 rfl ?_
  refine z_get d_Lir_on_19 22 rfl fl_Lir_23_10 wd_0 rfl ?_
  refine z_invvv d_Lir_on_22 25 rfl hm_Roo_becomeLike lk_Lir_255 im_Roo_becomeLike sl_Roo_Roo_becomeLike rfl wd_3 (r_Roo_becomeLike_on hT hPF hPS hb) rfl rfl (by decide) rfl rfl (Nat.le_of_ble_eq_true rfl) ?_
  refine z_aload_n d_Lir_on_25 rfl 26 rfl ?_
  refine z_get d_Lir_on_26 29 rfl fl_Lir_19_10 wd_0 rfl ?_
  refine z_get d_Lir_on_29 32 rfl fl_Lir_53_6 wd_3 rfl ?_
  exact z_ireturn d_Lir_on_32 (rfl) (rfl)
set_option maxHeartbeats 400000 in
theorem r_Lir_on_3 {tk : Int32} {tp bt crf nt : Nat → Int32} {T PF PS T2 PF2 PS2 : Nat → Option Nat} {C C2 : Nat → Nat → Int32} {rc g pp bn sc rc2 g2 pp2 bn2 sc2 : Nat → Int32} {u : zU} {tl : List zC} (htk : tk = 0) : Ret 6 0 0 m_Lir_on [.ref 0] (wld (tk, tp, bt, (T, C, rc, PF, PS, g, pp, bn, sc), (T2, C2, rc2, PF2, PS2, g2, pp2, bn2, sc2), crf, nt) u tl) (some (.int (-3))) (wld (tk, tp, bt, (T, C, rc, PF, PS, g, pp, bn, sc), (T2, C2, rc2, PF2, PS2, g2, pp2, bn2, sc2), rfu crf 3, nt) u tl) := by
  refine Ret.of (n := 0) (by decide) (rfl) rfl (fun X => ?_)
  refine z_aload_n d_Lir_on_0 rfl 1 rfl ?_
  refine z_get d_Lir_on_1 4 rfl fl_Lir_33_10 wd_0 rfl ?_
  refine z_if_ne d_Lir_on_4 14 7 (by decide) rfl (fun hzz => absurd htk hzz) (fun h1 => ?_)
  refine z_aload_n d_Lir_on_7 rfl 8 rfl ?_
  refine z_bipush d_Lir_on_8 (-3) (by decide) 10 rfl ?_
  refine z_invv d_Lir_on_10 13 rfl hm_Lir_refuse lk_Lir_37 im_Lir_refuse sl_Lir_Lir_refuse rfl wd_0 (r_Lir_refuse (-3) 3 (by decide) (by decide)) rfl rfl (by decide) rfl rfl (Nat.le_of_ble_eq_true rfl) ?_
  exact z_ireturn d_Lir_on_13 (rfl) (rfl)
