theorem zl_at {B : Nat} {Y : Nat → Nat} {ls : Array Slot} {nL i : Nat} {L : List (Option Value)} {v : Value} (h : lv_has ls nL (zl B Y 0 L)) (hk : L[i]? = some (some v)) : ls[i]? = some (.val (zr B Y v)) := by
  have := zl_mem B Y L 0 i v hk
  rw [Nat.zero_add] at this
  exact h.2.2 _ this
theorem z_iconst {X : zS} {M : zM} {d kc ks : Nat} {r : Option Value} {hp' : List zC} {pc : Nat} {L : List (Option Value)} {st : List Value} {hp : List zC} {n0 : Int} (hdg : decode M.2.1 pc = .ok (.iconst n0, 1)) (v : Int32) (hv : Int32.ofInt n0 = v) (n : Nat) (en : pc + 1 = n) (k : Z X M d kc ks r hp' n L (.int v :: st) hp) : Z X M d kc ks r hp' pc L st hp := by
  subst en
  intro G B p l e R s m args below meth c Q H locs cells slots ls A F h hS h1 h2 h3 h4 hl
  exact lv_iconst A.1 A.2.1 hdg hv (k G B p l e R s m args below meth c Q H locs cells slots ls A F h hS h1 h2 h3 h4 hl)
theorem z_bipush {X : zS} {M : zM} {d kc ks : Nat} {r : Option Value} {hp' : List zC} {pc : Nat} {L : List (Option Value)} {st : List Value} {hp : List zC} {n0 : Int} (hdg : decode M.2.1 pc = .ok (.bipush n0, 2)) (v : Int32) (hv : (Int8.ofInt n0).toInt32 = v) (n : Nat) (en : pc + 2 = n) (k : Z X M d kc ks r hp' n L (.int v :: st) hp) : Z X M d kc ks r hp' pc L st hp := by
  subst en
  intro G B p l e R s m args below meth c Q H locs cells slots ls A F h hS h1 h2 h3 h4 hl
  exact lv_bipush A.1 A.2.1 hdg hv (k G B p l e R s m args below meth c Q H locs cells slots ls A F h hS h1 h2 h3 h4 hl)
theorem z_sipush {X : zS} {M : zM} {d kc ks : Nat} {r : Option Value} {hp' : List zC} {pc : Nat} {L : List (Option Value)} {st : List Value} {hp : List zC} {n0 : Int} (hdg : decode M.2.1 pc = .ok (.sipush n0, 3)) (v : Int32) (hv : (Int16.ofInt n0).toInt32 = v) (n : Nat) (en : pc + 3 = n) (k : Z X M d kc ks r hp' n L (.int v :: st) hp) : Z X M d kc ks r hp' pc L st hp := by
  subst en
  intro G B p l e R s m args below meth c Q H locs cells slots ls A F h hS h1 h2 h3 h4 hl
  exact lv_sipush A.1 A.2.1 hdg hv (k G B p l e R s m args below meth c Q H locs cells slots ls A F h hS h1 h2 h3 h4 hl)
theorem z_ldc {X : zS} {M : zM} {d kc ks : Nat} {r : Option Value} {hp' : List zC} {pc : Nat} {L : List (Option Value)} {st : List Value} {hp : List zC} {ix : Nat} {v : Int32} (hdg : decode M.2.1 pc = .ok (.ldc ix, 2)) (hw : Cond.constant M.1.cls ix v ∈ zT) (n : Nat) (en : pc + 2 = n) (k : Z X M d kc ks r hp' n L (.int v :: st) hp) : Z X M d kc ks r hp' pc L st hp := by
  subst en
  intro G B p l e R s m args below meth c Q H locs cells slots ls A F h hS h1 h2 h3 h4 hl
  exact lv_ldc A.1 A.2.1 A.2.2.2.1 (A.2.2.2.2.1 _ hw) hdg (k G B p l e R s m args below meth c Q H locs cells slots ls A F h hS h1 h2 h3 h4 hl)
theorem z_ldc_w {X : zS} {M : zM} {d kc ks : Nat} {r : Option Value} {hp' : List zC} {pc : Nat} {L : List (Option Value)} {st : List Value} {hp : List zC} {ix : Nat} {v : Int32} (hdg : decode M.2.1 pc = .ok (.ldc_w ix, 3)) (hw : Cond.constant M.1.cls ix v ∈ zT) (n : Nat) (en : pc + 3 = n) (k : Z X M d kc ks r hp' n L (.int v :: st) hp) : Z X M d kc ks r hp' pc L st hp := by
  subst en
  intro G B p l e R s m args below meth c Q H locs cells slots ls A F h hS h1 h2 h3 h4 hl
  exact lv_ldcw A.1 A.2.1 A.2.2.2.1 (A.2.2.2.2.1 _ hw) hdg (k G B p l e R s m args below meth c Q H locs cells slots ls A F h hS h1 h2 h3 h4 hl)
theorem z_ldc2_w {X : zS} {M : zM} {d kc ks : Nat} {r : Option Value} {hp' : List zC} {pc : Nat} {L : List (Option Value)} {st : List Value} {hp : List zC} {ix : Nat} {v : Int64} (hdg : decode M.2.1 pc = .ok (.ldc2_w ix, 3)) (hw : Cond.constantLong M.1.cls ix v ∈ zT) (n : Nat) (en : pc + 3 = n) (k : Z X M d kc ks r hp' n L (.long v :: st) hp) : Z X M d kc ks r hp' pc L st hp := by
  subst en
  intro G B p l e R s m args below meth c Q H locs cells slots ls A F h hS h1 h2 h3 h4 hl
  exact lv_ldc2 A.1 A.2.1 A.2.2.2.1 (A.2.2.2.2.1 _ hw) hdg (k G B p l e R s m args below meth c Q H locs cells slots ls A F h hS h1 h2 h3 h4 hl)
theorem z_aconst_null {X : zS} {M : zM} {d kc ks : Nat} {r : Option Value} {hp' : List zC} {pc : Nat} {L : List (Option Value)} {st : List Value} {hp : List zC} (hdg : decode M.2.1 pc = .ok (.aconst_null, 1)) (n : Nat) (en : pc + 1 = n) (k : Z X M d kc ks r hp' n L (.null :: st) hp) : Z X M d kc ks r hp' pc L st hp := by
  subst en
  intro G B p l e R s m args below meth c Q H locs cells slots ls A F h hS h1 h2 h3 h4 hl
  exact lv_null A.1 A.2.1 hdg (k G B p l e R s m args below meth c Q H locs cells slots ls A F h hS h1 h2 h3 h4 hl)
theorem z_iload_n {X : zS} {M : zM} {d kc ks : Nat} {r : Option Value} {hp' : List zC} {pc : Nat} {L : List (Option Value)} {st : List Value} {hp : List zC} {i : Fin 4} {x : Int32} (hdg : decode M.2.1 pc = .ok (.iload_n i, 1)) (hi : L[(i : Nat)]? = some (some (.int x))) (n : Nat) (en : pc + 1 = n) (k : Z X M d kc ks r hp' n L (.int x :: st) hp) : Z X M d kc ks r hp' pc L st hp := by
  subst en
  intro G B p l e R s m args below meth c Q H locs cells slots ls A F h hS h1 h2 h3 h4 hl
  exact lv_iload_n A.1 A.2.1 hdg rfl (zl_at hl hi) (k G B p l e R s m args below meth c Q H locs cells slots ls A F h hS h1 h2 h3 h4 hl)
theorem z_iload {X : zS} {M : zM} {d kc ks : Nat} {r : Option Value} {hp' : List zC} {pc : Nat} {L : List (Option Value)} {st : List Value} {hp : List zC} {i : Nat} {x : Int32} (hdg : decode M.2.1 pc = .ok (.iload i, 2)) (hi : L[i]? = some (some (.int x))) (n : Nat) (en : pc + 2 = n) (k : Z X M d kc ks r hp' n L (.int x :: st) hp) : Z X M d kc ks r hp' pc L st hp := by
  subst en
  intro G B p l e R s m args below meth c Q H locs cells slots ls A F h hS h1 h2 h3 h4 hl
  exact lv_iload A.1 A.2.1 hdg (zl_at hl hi) (k G B p l e R s m args below meth c Q H locs cells slots ls A F h hS h1 h2 h3 h4 hl)
theorem z_lload_n {X : zS} {M : zM} {d kc ks : Nat} {r : Option Value} {hp' : List zC} {pc : Nat} {L : List (Option Value)} {st : List Value} {hp : List zC} {i : Fin 4} {x : Int64} (hdg : decode M.2.1 pc = .ok (.lload_n i, 1)) (hi : L[(i : Nat)]? = some (some (.long x))) (n : Nat) (en : pc + 1 = n) (k : Z X M d kc ks r hp' n L (.long x :: st) hp) : Z X M d kc ks r hp' pc L st hp := by
  subst en
  intro G B p l e R s m args below meth c Q H locs cells slots ls A F h hS h1 h2 h3 h4 hl
  exact lv_lload_n A.1 A.2.1 hdg rfl (zl_at hl hi) (k G B p l e R s m args below meth c Q H locs cells slots ls A F h hS h1 h2 h3 h4 hl)
theorem z_lload {X : zS} {M : zM} {d kc ks : Nat} {r : Option Value} {hp' : List zC} {pc : Nat} {L : List (Option Value)} {st : List Value} {hp : List zC} {i : Nat} {x : Int64} (hdg : decode M.2.1 pc = .ok (.lload i, 2)) (hi : L[i]? = some (some (.long x))) (n : Nat) (en : pc + 2 = n) (k : Z X M d kc ks r hp' n L (.long x :: st) hp) : Z X M d kc ks r hp' pc L st hp := by
  subst en
  intro G B p l e R s m args below meth c Q H locs cells slots ls A F h hS h1 h2 h3 h4 hl
  exact lv_lload A.1 A.2.1 hdg (zl_at hl hi) (k G B p l e R s m args below meth c Q H locs cells slots ls A F h hS h1 h2 h3 h4 hl)
theorem z_aload_n {X : zS} {M : zM} {d kc ks : Nat} {r : Option Value} {hp' : List zC} {pc : Nat} {L : List (Option Value)} {st : List Value} {hp : List zC} {i : Fin 4} {x : Nat} (hdg : decode M.2.1 pc = .ok (.aload_n i, 1)) (hi : L[(i : Nat)]? = some (some (.ref x))) (n : Nat) (en : pc + 1 = n) (k : Z X M d kc ks r hp' n L (.ref x :: st) hp) : Z X M d kc ks r hp' pc L st hp := by
  subst en
  intro G B p l e R s m args below meth c Q H locs cells slots ls A F h hS h1 h2 h3 h4 hl
  exact lv_aload_n A.1 A.2.1 hdg rfl (zl_at hl hi) (k G B p l e R s m args below meth c Q H locs cells slots ls A F h hS h1 h2 h3 h4 hl)
theorem z_aload {X : zS} {M : zM} {d kc ks : Nat} {r : Option Value} {hp' : List zC} {pc : Nat} {L : List (Option Value)} {st : List Value} {hp : List zC} {i : Nat} {x : Nat} (hdg : decode M.2.1 pc = .ok (.aload i, 2)) (hi : L[i]? = some (some (.ref x))) (n : Nat) (en : pc + 2 = n) (k : Z X M d kc ks r hp' n L (.ref x :: st) hp) : Z X M d kc ks r hp' pc L st hp := by
  subst en
  intro G B p l e R s m args below meth c Q H locs cells slots ls A F h hS h1 h2 h3 h4 hl
  exact lv_aload A.1 A.2.1 hdg (zl_at hl hi) (k G B p l e R s m args below meth c Q H locs cells slots ls A F h hS h1 h2 h3 h4 hl)
theorem z_aload_nX {X : zS} {M : zM} {d kc ks : Nat} {r : Option Value} {hp' : List zC} {pc : Nat} {L : List (Option Value)} {st : List Value} {hp : List zC} {i : Fin 4} {x : Nat} (hdg : decode M.2.1 pc = .ok (.aload_n i, 1)) (hi : L[(i : Nat)]? = some (some (.retAddr x))) (n : Nat) (en : pc + 1 = n) (k : Z X M d kc ks r hp' n L (.retAddr x :: st) hp) : Z X M d kc ks r hp' pc L st hp := by
  subst en
  intro G B p l e R s m args below meth c Q H locs cells slots ls A F h hS h1 h2 h3 h4 hl
  exact lv_aload_n A.1 A.2.1 hdg rfl (zl_at hl hi) (k G B p l e R s m args below meth c Q H locs cells slots ls A F h hS h1 h2 h3 h4 hl)
theorem z_aload_nN {X : zS} {M : zM} {d kc ks : Nat} {r : Option Value} {hp' : List zC} {pc : Nat} {L : List (Option Value)} {st : List Value} {hp : List zC} {i : Fin 4} (hdg : decode M.2.1 pc = .ok (.aload_n i, 1)) (hi : L[(i : Nat)]? = some (some .null)) (n : Nat) (en : pc + 1 = n) (k : Z X M d kc ks r hp' n L (.null :: st) hp) : Z X M d kc ks r hp' pc L st hp := by
  subst en
  intro G B p l e R s m args below meth c Q H locs cells slots ls A F h hS h1 h2 h3 h4 hl
  exact lv_aload_nN A.1 A.2.1 hdg rfl (zl_at hl hi) (k G B p l e R s m args below meth c Q H locs cells slots ls A F h hS h1 h2 h3 h4 hl)
theorem z_aloadN {X : zS} {M : zM} {d kc ks : Nat} {r : Option Value} {hp' : List zC} {pc : Nat} {L : List (Option Value)} {st : List Value} {hp : List zC} {i : Nat} (hdg : decode M.2.1 pc = .ok (.aload i, 2)) (hi : L[i]? = some (some .null)) (n : Nat) (en : pc + 2 = n) (k : Z X M d kc ks r hp' n L (.null :: st) hp) : Z X M d kc ks r hp' pc L st hp := by
  subst en
  intro G B p l e R s m args below meth c Q H locs cells slots ls A F h hS h1 h2 h3 h4 hl
  exact lv_aloadN A.1 A.2.1 hdg (zl_at hl hi) (k G B p l e R s m args below meth c Q H locs cells slots ls A F h hS h1 h2 h3 h4 hl)
theorem z_istore_n {X : zS} {M : zM} {d kc ks : Nat} {r : Option Value} {hp' : List zC} {pc : Nat} {L : List (Option Value)} {st : List Value} {hp : List zC} {i : Fin 4} {x : Int32} (hdg : decode M.2.1 pc = .ok (.istore_n i, 1)) (n : Nat) (en : pc + 1 = n) (hi : (i : Nat) < M.2.2.1) (hz : zlong L (i : Nat) = false) (k : Z X M d kc ks r hp' n (L.set (i : Nat) (some (.int x))) st hp) : Z X M d kc ks r hp' pc L (.int x :: st) hp := by
  subst en
  intro G B p l e R s m args below meth c Q H locs cells slots ls A F h hS h1 h2 h3 h4 hl
  exact lv_istore_n A.1 A.2.1 hdg rfl hl hi rfl (fun ls' hl' => k G B p l e R s m args below meth c Q H locs cells slots ls' A F h hS h1 h2 h3 h4 (zl_set (v := .int x) hz hl'))
theorem z_istore {X : zS} {M : zM} {d kc ks : Nat} {r : Option Value} {hp' : List zC} {pc : Nat} {L : List (Option Value)} {st : List Value} {hp : List zC} {i : Nat} {x : Int32} (hdg : decode M.2.1 pc = .ok (.istore i, 2)) (n : Nat) (en : pc + 2 = n) (hi : i < M.2.2.1) (hz : zlong L i = false) (k : Z X M d kc ks r hp' n (L.set i (some (.int x))) st hp) : Z X M d kc ks r hp' pc L (.int x :: st) hp := by
  subst en
  intro G B p l e R s m args below meth c Q H locs cells slots ls A F h hS h1 h2 h3 h4 hl
  exact lv_istore A.1 A.2.1 hdg hl hi rfl (fun ls' hl' => k G B p l e R s m args below meth c Q H locs cells slots ls' A F h hS h1 h2 h3 h4 (zl_set (v := .int x) hz hl'))
theorem z_astore_n {X : zS} {M : zM} {d kc ks : Nat} {r : Option Value} {hp' : List zC} {pc : Nat} {L : List (Option Value)} {st : List Value} {hp : List zC} {i : Fin 4} {x : Nat} (hdg : decode M.2.1 pc = .ok (.astore_n i, 1)) (n : Nat) (en : pc + 1 = n) (hi : (i : Nat) < M.2.2.1) (hz : zlong L (i : Nat) = false) (k : Z X M d kc ks r hp' n (L.set (i : Nat) (some (.ref x))) st hp) : Z X M d kc ks r hp' pc L (.ref x :: st) hp := by
  subst en
  intro G B p l e R s m args below meth c Q H locs cells slots ls A F h hS h1 h2 h3 h4 hl
  exact lv_astore_n A.1 A.2.1 hdg rfl hl hi rfl (fun ls' hl' => k G B p l e R s m args below meth c Q H locs cells slots ls' A F h hS h1 h2 h3 h4 (zl_set (v := .ref x) hz hl'))
theorem z_astore {X : zS} {M : zM} {d kc ks : Nat} {r : Option Value} {hp' : List zC} {pc : Nat} {L : List (Option Value)} {st : List Value} {hp : List zC} {i : Nat} {x : Nat} (hdg : decode M.2.1 pc = .ok (.astore i, 2)) (n : Nat) (en : pc + 2 = n) (hi : i < M.2.2.1) (hz : zlong L i = false) (k : Z X M d kc ks r hp' n (L.set i (some (.ref x))) st hp) : Z X M d kc ks r hp' pc L (.ref x :: st) hp := by
  subst en
  intro G B p l e R s m args below meth c Q H locs cells slots ls A F h hS h1 h2 h3 h4 hl
  exact lv_astore A.1 A.2.1 hdg hl hi rfl (fun ls' hl' => k G B p l e R s m args below meth c Q H locs cells slots ls' A F h hS h1 h2 h3 h4 (zl_set (v := .ref x) hz hl'))
theorem z_astore_nN {X : zS} {M : zM} {d kc ks : Nat} {r : Option Value} {hp' : List zC} {pc : Nat} {L : List (Option Value)} {st : List Value} {hp : List zC} {i : Fin 4} (hdg : decode M.2.1 pc = .ok (.astore_n i, 1)) (n : Nat) (en : pc + 1 = n) (hi : (i : Nat) < M.2.2.1) (hz : zlong L (i : Nat) = false) (k : Z X M d kc ks r hp' n (L.set (i : Nat) (some (.null))) st hp) : Z X M d kc ks r hp' pc L (.null :: st) hp := by
  subst en
  intro G B p l e R s m args below meth c Q H locs cells slots ls A F h hS h1 h2 h3 h4 hl
  exact lv_astore_nN A.1 A.2.1 hdg rfl hl hi rfl (fun ls' hl' => k G B p l e R s m args below meth c Q H locs cells slots ls' A F h hS h1 h2 h3 h4 (zl_set (v := .null) hz hl'))
theorem z_astoreN {X : zS} {M : zM} {d kc ks : Nat} {r : Option Value} {hp' : List zC} {pc : Nat} {L : List (Option Value)} {st : List Value} {hp : List zC} {i : Nat} (hdg : decode M.2.1 pc = .ok (.astore i, 2)) (n : Nat) (en : pc + 2 = n) (hi : i < M.2.2.1) (hz : zlong L i = false) (k : Z X M d kc ks r hp' n (L.set i (some (.null))) st hp) : Z X M d kc ks r hp' pc L (.null :: st) hp := by
  subst en
  intro G B p l e R s m args below meth c Q H locs cells slots ls A F h hS h1 h2 h3 h4 hl
  exact lv_astoreN A.1 A.2.1 hdg hl hi rfl (fun ls' hl' => k G B p l e R s m args below meth c Q H locs cells slots ls' A F h hS h1 h2 h3 h4 (zl_set (v := .null) hz hl'))
theorem zl_ix {B : Nat} {Y : Nat → Nat} {L : List (Option Value)} {i : Nat} {v : Value} (hk : L[i]? = some (some v)) : ∃ k : Nat, (zl B Y 0 L)[k]? = some (i, zr B Y v) := by
  have := zl_mem B Y L 0 i v hk
  rw [Nat.zero_add] at this
  exact List.getElem?_of_mem this
theorem z_iinc {X : zS} {M : zM} {d kc ks : Nat} {r : Option Value} {hp' : List zC} {pc : Nat} {L : List (Option Value)} {st : List Value} {hp : List zC} {i : Nat} {n0 : Int} {x : Int32} (hdg : decode M.2.1 pc = .ok (.iinc i n0, 3)) (v : Int32) (hv : Int32.ofInt n0 = v) (n : Nat) (en : pc + 3 = n) (hi : L[i]? = some (some (.int x))) (hb : i < M.2.2.1) (hz : zlong L i = false) (k : Z X M d kc ks r hp' n (L.set i (some (.int (x + v)))) st hp) : Z X M d kc ks r hp' pc L st hp := by
  subst en
  subst hv
  intro G B p l e R s m args below meth c Q H locs cells slots ls A F h hS h1 h2 h3 h4 hl
  obtain ⟨q, hq⟩ := zl_ix (B := B) (Y := G.2.2) hi
  exact lv_iinc A.1 A.2.1 hdg hl hq rfl hb rfl (fun ls' hl' => k G B p l e R s m args below meth c Q H locs cells slots ls' A F h hS h1 h2 h3 h4 (zl_set (v := .int (x + Int32.ofInt n0)) hz hl'))
theorem z_iadd {X : zS} {M : zM} {d kc ks : Nat} {r : Option Value} {hp' : List zC} {pc : Nat} {L : List (Option Value)} {st : List Value} {hp : List zC} {x y : Int32} (hdg : decode M.2.1 pc = .ok (.iadd, 1)) (n : Nat) (en : pc + 1 = n) (k : Z X M d kc ks r hp' n L (.int (x + y) :: st) hp) : Z X M d kc ks r hp' pc L (.int y :: .int x :: st) hp := by
  subst en
  intro G B p l e R s m args below meth c Q H locs cells slots ls A F h hS h1 h2 h3 h4 hl
  exact lv_iadd A.1 A.2.1 hdg (k G B p l e R s m args below meth c Q H locs cells slots ls A F h hS h1 h2 h3 h4 hl)
theorem z_isub {X : zS} {M : zM} {d kc ks : Nat} {r : Option Value} {hp' : List zC} {pc : Nat} {L : List (Option Value)} {st : List Value} {hp : List zC} {x y : Int32} (hdg : decode M.2.1 pc = .ok (.isub, 1)) (n : Nat) (en : pc + 1 = n) (k : Z X M d kc ks r hp' n L (.int (x - y) :: st) hp) : Z X M d kc ks r hp' pc L (.int y :: .int x :: st) hp := by
  subst en
  intro G B p l e R s m args below meth c Q H locs cells slots ls A F h hS h1 h2 h3 h4 hl
  exact lv_isub A.1 A.2.1 hdg (k G B p l e R s m args below meth c Q H locs cells slots ls A F h hS h1 h2 h3 h4 hl)
theorem z_imul {X : zS} {M : zM} {d kc ks : Nat} {r : Option Value} {hp' : List zC} {pc : Nat} {L : List (Option Value)} {st : List Value} {hp : List zC} {x y : Int32} (hdg : decode M.2.1 pc = .ok (.imul, 1)) (n : Nat) (en : pc + 1 = n) (k : Z X M d kc ks r hp' n L (.int (x * y) :: st) hp) : Z X M d kc ks r hp' pc L (.int y :: .int x :: st) hp := by
  subst en
  intro G B p l e R s m args below meth c Q H locs cells slots ls A F h hS h1 h2 h3 h4 hl
  exact lv_imul A.1 A.2.1 hdg (k G B p l e R s m args below meth c Q H locs cells slots ls A F h hS h1 h2 h3 h4 hl)
theorem z_iand {X : zS} {M : zM} {d kc ks : Nat} {r : Option Value} {hp' : List zC} {pc : Nat} {L : List (Option Value)} {st : List Value} {hp : List zC} {x y : Int32} (hdg : decode M.2.1 pc = .ok (.iand, 1)) (n : Nat) (en : pc + 1 = n) (k : Z X M d kc ks r hp' n L (.int (x &&& y) :: st) hp) : Z X M d kc ks r hp' pc L (.int y :: .int x :: st) hp := by
  subst en
  intro G B p l e R s m args below meth c Q H locs cells slots ls A F h hS h1 h2 h3 h4 hl
  exact lv_iand A.1 A.2.1 hdg (k G B p l e R s m args below meth c Q H locs cells slots ls A F h hS h1 h2 h3 h4 hl)
theorem z_ior {X : zS} {M : zM} {d kc ks : Nat} {r : Option Value} {hp' : List zC} {pc : Nat} {L : List (Option Value)} {st : List Value} {hp : List zC} {x y : Int32} (hdg : decode M.2.1 pc = .ok (.ior, 1)) (n : Nat) (en : pc + 1 = n) (k : Z X M d kc ks r hp' n L (.int (x ||| y) :: st) hp) : Z X M d kc ks r hp' pc L (.int y :: .int x :: st) hp := by
  subst en
  intro G B p l e R s m args below meth c Q H locs cells slots ls A F h hS h1 h2 h3 h4 hl
  exact lv_ior A.1 A.2.1 hdg (k G B p l e R s m args below meth c Q H locs cells slots ls A F h hS h1 h2 h3 h4 hl)
theorem z_ixor {X : zS} {M : zM} {d kc ks : Nat} {r : Option Value} {hp' : List zC} {pc : Nat} {L : List (Option Value)} {st : List Value} {hp : List zC} {x y : Int32} (hdg : decode M.2.1 pc = .ok (.ixor, 1)) (n : Nat) (en : pc + 1 = n) (k : Z X M d kc ks r hp' n L (.int (x ^^^ y) :: st) hp) : Z X M d kc ks r hp' pc L (.int y :: .int x :: st) hp := by
  subst en
  intro G B p l e R s m args below meth c Q H locs cells slots ls A F h hS h1 h2 h3 h4 hl
  exact lv_ixor A.1 A.2.1 hdg (k G B p l e R s m args below meth c Q H locs cells slots ls A F h hS h1 h2 h3 h4 hl)
theorem z_ishl {X : zS} {M : zM} {d kc ks : Nat} {r : Option Value} {hp' : List zC} {pc : Nat} {L : List (Option Value)} {st : List Value} {hp : List zC} {x y : Int32} (hdg : decode M.2.1 pc = .ok (.ishl, 1)) (n : Nat) (en : pc + 1 = n) (k : Z X M d kc ks r hp' n L (.int (x <<< (y &&& 31)) :: st) hp) : Z X M d kc ks r hp' pc L (.int y :: .int x :: st) hp := by
  subst en
  intro G B p l e R s m args below meth c Q H locs cells slots ls A F h hS h1 h2 h3 h4 hl
  exact lv_ishl A.1 A.2.1 hdg (k G B p l e R s m args below meth c Q H locs cells slots ls A F h hS h1 h2 h3 h4 hl)
theorem z_ishr {X : zS} {M : zM} {d kc ks : Nat} {r : Option Value} {hp' : List zC} {pc : Nat} {L : List (Option Value)} {st : List Value} {hp : List zC} {x y : Int32} (hdg : decode M.2.1 pc = .ok (.ishr, 1)) (n : Nat) (en : pc + 1 = n) (k : Z X M d kc ks r hp' n L (.int (x >>> (y &&& 31)) :: st) hp) : Z X M d kc ks r hp' pc L (.int y :: .int x :: st) hp := by
  subst en
  intro G B p l e R s m args below meth c Q H locs cells slots ls A F h hS h1 h2 h3 h4 hl
  exact lv_ishr A.1 A.2.1 hdg (k G B p l e R s m args below meth c Q H locs cells slots ls A F h hS h1 h2 h3 h4 hl)
theorem z_idiv {X : zS} {M : zM} {d kc ks : Nat} {r : Option Value} {hp' : List zC} {pc : Nat} {L : List (Option Value)} {st : List Value} {hp : List zC} {x y : Int32} (hdg : decode M.2.1 pc = .ok (.idiv, 1)) (hne : ¬ y = 0) (n : Nat) (en : pc + 1 = n) (k : Z X M d kc ks r hp' n L (.int (x / y) :: st) hp) : Z X M d kc ks r hp' pc L (.int y :: .int x :: st) hp := by
  subst en
  intro G B p l e R s m args below meth c Q H locs cells slots ls A F h hS h1 h2 h3 h4 hl
  exact lv_idiv A.1 A.2.1 hdg hne (k G B p l e R s m args below meth c Q H locs cells slots ls A F h hS h1 h2 h3 h4 hl)
theorem z_irem {X : zS} {M : zM} {d kc ks : Nat} {r : Option Value} {hp' : List zC} {pc : Nat} {L : List (Option Value)} {st : List Value} {hp : List zC} {x y : Int32} (hdg : decode M.2.1 pc = .ok (.irem, 1)) (hne : ¬ y = 0) (n : Nat) (en : pc + 1 = n) (k : Z X M d kc ks r hp' n L (.int (x - x / y * y) :: st) hp) : Z X M d kc ks r hp' pc L (.int y :: .int x :: st) hp := by
  subst en
  intro G B p l e R s m args below meth c Q H locs cells slots ls A F h hS h1 h2 h3 h4 hl
  exact lv_irem A.1 A.2.1 hdg hne (k G B p l e R s m args below meth c Q H locs cells slots ls A F h hS h1 h2 h3 h4 hl)
theorem z_ineg {X : zS} {M : zM} {d kc ks : Nat} {r : Option Value} {hp' : List zC} {pc : Nat} {L : List (Option Value)} {st : List Value} {hp : List zC} {x : Int32} (hdg : decode M.2.1 pc = .ok (.ineg, 1)) (n : Nat) (en : pc + 1 = n) (k : Z X M d kc ks r hp' n L (.int (-x) :: st) hp) : Z X M d kc ks r hp' pc L (.int x :: st) hp := by
  subst en
  intro G B p l e R s m args below meth c Q H locs cells slots ls A F h hS h1 h2 h3 h4 hl
  exact lv_ineg A.1 A.2.1 hdg (k G B p l e R s m args below meth c Q H locs cells slots ls A F h hS h1 h2 h3 h4 hl)
theorem z_iushr {X : zS} {M : zM} {d kc ks : Nat} {r : Option Value} {hp' : List zC} {pc : Nat} {L : List (Option Value)} {st : List Value} {hp : List zC} {x y : Int32} (hdg : decode M.2.1 pc = .ok (.iushr, 1)) (n : Nat) (en : pc + 1 = n) (k : Z X M d kc ks r hp' n L (.int (x.toUInt32 >>> (y.toUInt32 &&& Int32.toUInt32 31)).toInt32 :: st) hp) : Z X M d kc ks r hp' pc L (.int y :: .int x :: st) hp := by
  subst en
  intro G B p l e R s m args below meth c Q H locs cells slots ls A F h hS h1 h2 h3 h4 hl
  exact lv_iushr A.1 A.2.1 hdg rfl (k G B p l e R s m args below meth c Q H locs cells slots ls A F h hS h1 h2 h3 h4 hl)
theorem z_land {X : zS} {M : zM} {d kc ks : Nat} {r : Option Value} {hp' : List zC} {pc : Nat} {L : List (Option Value)} {st : List Value} {hp : List zC} {x y : Int64} (hdg : decode M.2.1 pc = .ok (.land, 1)) (n : Nat) (en : pc + 1 = n) (k : Z X M d kc ks r hp' n L (.long (x &&& y) :: st) hp) : Z X M d kc ks r hp' pc L (.long y :: .long x :: st) hp := by
  subst en
  intro G B p l e R s m args below meth c Q H locs cells slots ls A F h hS h1 h2 h3 h4 hl
  exact lv_land A.1 A.2.1 hdg (k G B p l e R s m args below meth c Q H locs cells slots ls A F h hS h1 h2 h3 h4 hl)
theorem z_lor {X : zS} {M : zM} {d kc ks : Nat} {r : Option Value} {hp' : List zC} {pc : Nat} {L : List (Option Value)} {st : List Value} {hp : List zC} {x y : Int64} (hdg : decode M.2.1 pc = .ok (.lor, 1)) (n : Nat) (en : pc + 1 = n) (k : Z X M d kc ks r hp' n L (.long (x ||| y) :: st) hp) : Z X M d kc ks r hp' pc L (.long y :: .long x :: st) hp := by
  subst en
  intro G B p l e R s m args below meth c Q H locs cells slots ls A F h hS h1 h2 h3 h4 hl
  exact lv_lor A.1 A.2.1 hdg (k G B p l e R s m args below meth c Q H locs cells slots ls A F h hS h1 h2 h3 h4 hl)
theorem z_lshl {X : zS} {M : zM} {d kc ks : Nat} {r : Option Value} {hp' : List zC} {pc : Nat} {L : List (Option Value)} {st : List Value} {hp : List zC} {x : Int64} {y : Int32} (hdg : decode M.2.1 pc = .ok (.lshl, 1)) (n : Nat) (en : pc + 1 = n) (k : Z X M d kc ks r hp' n L (.long (x <<< (y.toInt64 &&& 63)) :: st) hp) : Z X M d kc ks r hp' pc L (.int y :: .long x :: st) hp := by
  subst en
  intro G B p l e R s m args below meth c Q H locs cells slots ls A F h hS h1 h2 h3 h4 hl
  exact lv_lshl A.1 A.2.1 hdg rfl (k G B p l e R s m args below meth c Q H locs cells slots ls A F h hS h1 h2 h3 h4 hl)
theorem z_lshr {X : zS} {M : zM} {d kc ks : Nat} {r : Option Value} {hp' : List zC} {pc : Nat} {L : List (Option Value)} {st : List Value} {hp : List zC} {x : Int64} {y : Int32} (hdg : decode M.2.1 pc = .ok (.lshr, 1)) (n : Nat) (en : pc + 1 = n) (k : Z X M d kc ks r hp' n L (.long (x >>> (y.toInt64 &&& 63)) :: st) hp) : Z X M d kc ks r hp' pc L (.int y :: .long x :: st) hp := by
  subst en
  intro G B p l e R s m args below meth c Q H locs cells slots ls A F h hS h1 h2 h3 h4 hl
  exact lv_lshr A.1 A.2.1 hdg rfl (k G B p l e R s m args below meth c Q H locs cells slots ls A F h hS h1 h2 h3 h4 hl)
theorem z_lushr {X : zS} {M : zM} {d kc ks : Nat} {r : Option Value} {hp' : List zC} {pc : Nat} {L : List (Option Value)} {st : List Value} {hp : List zC} {x : Int64} {y : Int32} (hdg : decode M.2.1 pc = .ok (.lushr, 1)) (n : Nat) (en : pc + 1 = n) (k : Z X M d kc ks r hp' n L (.long (x.toUInt64 >>> (y.toInt64.toUInt64 &&& Int64.toUInt64 63)).toInt64 :: st) hp) : Z X M d kc ks r hp' pc L (.int y :: .long x :: st) hp := by
  subst en
  intro G B p l e R s m args below meth c Q H locs cells slots ls A F h hS h1 h2 h3 h4 hl
  exact lv_lushr A.1 A.2.1 hdg rfl (k G B p l e R s m args below meth c Q H locs cells slots ls A F h hS h1 h2 h3 h4 hl)
theorem z_l2i {X : zS} {M : zM} {d kc ks : Nat} {r : Option Value} {hp' : List zC} {pc : Nat} {L : List (Option Value)} {st : List Value} {hp : List zC} {x : Int64} (hdg : decode M.2.1 pc = .ok (.l2i, 1)) (n : Nat) (en : pc + 1 = n) (k : Z X M d kc ks r hp' n L (.int x.toInt32 :: st) hp) : Z X M d kc ks r hp' pc L (.long x :: st) hp := by
  subst en
  intro G B p l e R s m args below meth c Q H locs cells slots ls A F h hS h1 h2 h3 h4 hl
  exact lv_l2i A.1 A.2.1 hdg rfl (k G B p l e R s m args below meth c Q H locs cells slots ls A F h hS h1 h2 h3 h4 hl)
theorem z_i2l {X : zS} {M : zM} {d kc ks : Nat} {r : Option Value} {hp' : List zC} {pc : Nat} {L : List (Option Value)} {st : List Value} {hp : List zC} {x : Int32} (hdg : decode M.2.1 pc = .ok (.i2l, 1)) (n : Nat) (en : pc + 1 = n) (k : Z X M d kc ks r hp' n L (.long x.toInt64 :: st) hp) : Z X M d kc ks r hp' pc L (.int x :: st) hp := by
  subst en
  intro G B p l e R s m args below meth c Q H locs cells slots ls A F h hS h1 h2 h3 h4 hl
  exact lv_i2l A.1 A.2.1 hdg rfl (k G B p l e R s m args below meth c Q H locs cells slots ls A F h hS h1 h2 h3 h4 hl)
theorem z_i2c {X : zS} {M : zM} {d kc ks : Nat} {r : Option Value} {hp' : List zC} {pc : Nat} {L : List (Option Value)} {st : List Value} {hp : List zC} {x : Int32} (hdg : decode M.2.1 pc = .ok (.i2c, 1)) (n : Nat) (en : pc + 1 = n) (k : Z X M d kc ks r hp' n L (.int (x.toUInt32 % 65536).toInt32 :: st) hp) : Z X M d kc ks r hp' pc L (.int x :: st) hp := by
  subst en
  intro G B p l e R s m args below meth c Q H locs cells slots ls A F h hS h1 h2 h3 h4 hl
  exact lv_i2c A.1 A.2.1 hdg rfl (k G B p l e R s m args below meth c Q H locs cells slots ls A F h hS h1 h2 h3 h4 hl)
theorem z_dup {X : zS} {M : zM} {d kc ks : Nat} {r : Option Value} {hp' : List zC} {pc : Nat} {L : List (Option Value)} {st : List Value} {hp : List zC} {v : Value} (hdg : decode M.2.1 pc = .ok (.dup, 1)) (hv : v.category = 1) (n : Nat) (en : pc + 1 = n) (k : Z X M d kc ks r hp' n L (v :: v :: st) hp) : Z X M d kc ks r hp' pc L (v :: st) hp := by
  subst en
  intro G B p l e R s m args below meth c Q H locs cells slots ls A F h hS h1 h2 h3 h4 hl
  exact lv_dup A.1 A.2.1 hdg ((zr_cat _ _ _).trans hv) (k G B p l e R s m args below meth c Q H locs cells slots ls A F h hS h1 h2 h3 h4 hl)
theorem z_pop {X : zS} {M : zM} {d kc ks : Nat} {r : Option Value} {hp' : List zC} {pc : Nat} {L : List (Option Value)} {st : List Value} {hp : List zC} {v : Value} (hdg : decode M.2.1 pc = .ok (.pop, 1)) (hv : v.category = 1) (n : Nat) (en : pc + 1 = n) (k : Z X M d kc ks r hp' n L st hp) : Z X M d kc ks r hp' pc L (v :: st) hp := by
  subst en
  intro G B p l e R s m args below meth c Q H locs cells slots ls A F h hS h1 h2 h3 h4 hl
  exact lv_pop A.1 A.2.1 hdg ((zr_cat _ _ _).trans hv) (k G B p l e R s m args below meth c Q H locs cells slots ls A F h hS h1 h2 h3 h4 hl)
theorem z_dup2 {X : zS} {M : zM} {d kc ks : Nat} {r : Option Value} {hp' : List zC} {pc : Nat} {L : List (Option Value)} {st : List Value} {hp : List zC} {v w : Value} (hdg : decode M.2.1 pc = .ok (.dup2, 1)) (hv : v.category = 1) (hw : w.category = 1) (n : Nat) (en : pc + 1 = n) (k : Z X M d kc ks r hp' n L (v :: w :: v :: w :: st) hp) : Z X M d kc ks r hp' pc L (v :: w :: st) hp := by
  subst en
  intro G B p l e R s m args below meth c Q H locs cells slots ls A F h hS h1 h2 h3 h4 hl
  exact lv_dup2_11 A.1 A.2.1 hdg ((zr_cat _ _ _).trans hv) ((zr_cat _ _ _).trans hw) (k G B p l e R s m args below meth c Q H locs cells slots ls A F h hS h1 h2 h3 h4 hl)
theorem z_if_eq {X : zS} {M : zM} {d kc ks : Nat} {r : Option Value} {hp' : List zC} {pc : Nat} {L : List (Option Value)} {st : List Value} {hp : List zC} {x : Int32} {off : Int} (hdg : decode M.2.1 pc = .ok (.ifCond .eq off, 3)) (n1 n2 : Nat) (e1 : (pc : Int) + off = (n1 : Int)) (e2 : pc + 3 = n2) (kt : x = 0 → Z X M d kc ks r hp' n1 L st hp) (kf : ¬ x = 0 → Z X M d kc ks r hp' n2 L st hp) : Z X M d kc ks r hp' pc L (.int x :: st) hp := by
  subst e2
  intro G B p l e R s m args below meth c Q H locs cells slots ls A F h hS h1 h2 h3 h4 hl
  exact lv_if_eq A.1 A.2.1 hdg e1 (fun q => kt q G B p l e R s m args below meth c Q H locs cells slots ls A F h hS h1 h2 h3 h4 hl) (fun q => kf q G B p l e R s m args below meth c Q H locs cells slots ls A F h hS h1 h2 h3 h4 hl)
theorem z_icmp_eq {X : zS} {M : zM} {d kc ks : Nat} {r : Option Value} {hp' : List zC} {pc : Nat} {L : List (Option Value)} {st : List Value} {hp : List zC} {x y : Int32} {off : Int} (hdg : decode M.2.1 pc = .ok (.if_icmp .eq off, 3)) (n1 n2 : Nat) (e1 : (pc : Int) + off = (n1 : Int)) (e2 : pc + 3 = n2) (kt : x = y → Z X M d kc ks r hp' n1 L st hp) (kf : ¬ x = y → Z X M d kc ks r hp' n2 L st hp) : Z X M d kc ks r hp' pc L (.int y :: .int x :: st) hp := by
  subst e2
  intro G B p l e R s m args below meth c Q H locs cells slots ls A F h hS h1 h2 h3 h4 hl
  exact lv_icmp_eq A.1 A.2.1 hdg e1 (fun q => kt q G B p l e R s m args below meth c Q H locs cells slots ls A F h hS h1 h2 h3 h4 hl) (fun q => kf q G B p l e R s m args below meth c Q H locs cells slots ls A F h hS h1 h2 h3 h4 hl)
theorem z_if_ne {X : zS} {M : zM} {d kc ks : Nat} {r : Option Value} {hp' : List zC} {pc : Nat} {L : List (Option Value)} {st : List Value} {hp : List zC} {x : Int32} {off : Int} (hdg : decode M.2.1 pc = .ok (.ifCond .ne off, 3)) (n1 n2 : Nat) (e1 : (pc : Int) + off = (n1 : Int)) (e2 : pc + 3 = n2) (kt : ¬ x = 0 → Z X M d kc ks r hp' n1 L st hp) (kf : x = 0 → Z X M d kc ks r hp' n2 L st hp) : Z X M d kc ks r hp' pc L (.int x :: st) hp := by
  subst e2
  intro G B p l e R s m args below meth c Q H locs cells slots ls A F h hS h1 h2 h3 h4 hl
  exact lv_if_ne A.1 A.2.1 hdg e1 (fun q => kt q G B p l e R s m args below meth c Q H locs cells slots ls A F h hS h1 h2 h3 h4 hl) (fun q => kf q G B p l e R s m args below meth c Q H locs cells slots ls A F h hS h1 h2 h3 h4 hl)
theorem z_icmp_ne {X : zS} {M : zM} {d kc ks : Nat} {r : Option Value} {hp' : List zC} {pc : Nat} {L : List (Option Value)} {st : List Value} {hp : List zC} {x y : Int32} {off : Int} (hdg : decode M.2.1 pc = .ok (.if_icmp .ne off, 3)) (n1 n2 : Nat) (e1 : (pc : Int) + off = (n1 : Int)) (e2 : pc + 3 = n2) (kt : ¬ x = y → Z X M d kc ks r hp' n1 L st hp) (kf : x = y → Z X M d kc ks r hp' n2 L st hp) : Z X M d kc ks r hp' pc L (.int y :: .int x :: st) hp := by
  subst e2
  intro G B p l e R s m args below meth c Q H locs cells slots ls A F h hS h1 h2 h3 h4 hl
  exact lv_icmp_ne A.1 A.2.1 hdg e1 (fun q => kt q G B p l e R s m args below meth c Q H locs cells slots ls A F h hS h1 h2 h3 h4 hl) (fun q => kf q G B p l e R s m args below meth c Q H locs cells slots ls A F h hS h1 h2 h3 h4 hl)
theorem z_if_lt {X : zS} {M : zM} {d kc ks : Nat} {r : Option Value} {hp' : List zC} {pc : Nat} {L : List (Option Value)} {st : List Value} {hp : List zC} {x : Int32} {off : Int} (hdg : decode M.2.1 pc = .ok (.ifCond .lt off, 3)) (n1 n2 : Nat) (e1 : (pc : Int) + off = (n1 : Int)) (e2 : pc + 3 = n2) (kt : x < 0 → Z X M d kc ks r hp' n1 L st hp) (kf : ¬ x < 0 → Z X M d kc ks r hp' n2 L st hp) : Z X M d kc ks r hp' pc L (.int x :: st) hp := by
  subst e2
  intro G B p l e R s m args below meth c Q H locs cells slots ls A F h hS h1 h2 h3 h4 hl
  exact lv_if_lt A.1 A.2.1 hdg e1 (fun q => kt q G B p l e R s m args below meth c Q H locs cells slots ls A F h hS h1 h2 h3 h4 hl) (fun q => kf q G B p l e R s m args below meth c Q H locs cells slots ls A F h hS h1 h2 h3 h4 hl)
theorem z_icmp_lt {X : zS} {M : zM} {d kc ks : Nat} {r : Option Value} {hp' : List zC} {pc : Nat} {L : List (Option Value)} {st : List Value} {hp : List zC} {x y : Int32} {off : Int} (hdg : decode M.2.1 pc = .ok (.if_icmp .lt off, 3)) (n1 n2 : Nat) (e1 : (pc : Int) + off = (n1 : Int)) (e2 : pc + 3 = n2) (kt : x < y → Z X M d kc ks r hp' n1 L st hp) (kf : ¬ x < y → Z X M d kc ks r hp' n2 L st hp) : Z X M d kc ks r hp' pc L (.int y :: .int x :: st) hp := by
  subst e2
  intro G B p l e R s m args below meth c Q H locs cells slots ls A F h hS h1 h2 h3 h4 hl
  exact lv_icmp_lt A.1 A.2.1 hdg e1 (fun q => kt q G B p l e R s m args below meth c Q H locs cells slots ls A F h hS h1 h2 h3 h4 hl) (fun q => kf q G B p l e R s m args below meth c Q H locs cells slots ls A F h hS h1 h2 h3 h4 hl)
theorem z_if_ge {X : zS} {M : zM} {d kc ks : Nat} {r : Option Value} {hp' : List zC} {pc : Nat} {L : List (Option Value)} {st : List Value} {hp : List zC} {x : Int32} {off : Int} (hdg : decode M.2.1 pc = .ok (.ifCond .ge off, 3)) (n1 n2 : Nat) (e1 : (pc : Int) + off = (n1 : Int)) (e2 : pc + 3 = n2) (kt : 0 ≤ x → Z X M d kc ks r hp' n1 L st hp) (kf : ¬ 0 ≤ x → Z X M d kc ks r hp' n2 L st hp) : Z X M d kc ks r hp' pc L (.int x :: st) hp := by
  subst e2
  intro G B p l e R s m args below meth c Q H locs cells slots ls A F h hS h1 h2 h3 h4 hl
  exact lv_if_ge A.1 A.2.1 hdg e1 (fun q => kt q G B p l e R s m args below meth c Q H locs cells slots ls A F h hS h1 h2 h3 h4 hl) (fun q => kf q G B p l e R s m args below meth c Q H locs cells slots ls A F h hS h1 h2 h3 h4 hl)
theorem z_icmp_ge {X : zS} {M : zM} {d kc ks : Nat} {r : Option Value} {hp' : List zC} {pc : Nat} {L : List (Option Value)} {st : List Value} {hp : List zC} {x y : Int32} {off : Int} (hdg : decode M.2.1 pc = .ok (.if_icmp .ge off, 3)) (n1 n2 : Nat) (e1 : (pc : Int) + off = (n1 : Int)) (e2 : pc + 3 = n2) (kt : y ≤ x → Z X M d kc ks r hp' n1 L st hp) (kf : ¬ y ≤ x → Z X M d kc ks r hp' n2 L st hp) : Z X M d kc ks r hp' pc L (.int y :: .int x :: st) hp := by
  subst e2
  intro G B p l e R s m args below meth c Q H locs cells slots ls A F h hS h1 h2 h3 h4 hl
  exact lv_icmp_ge A.1 A.2.1 hdg e1 (fun q => kt q G B p l e R s m args below meth c Q H locs cells slots ls A F h hS h1 h2 h3 h4 hl) (fun q => kf q G B p l e R s m args below meth c Q H locs cells slots ls A F h hS h1 h2 h3 h4 hl)
theorem z_if_gt {X : zS} {M : zM} {d kc ks : Nat} {r : Option Value} {hp' : List zC} {pc : Nat} {L : List (Option Value)} {st : List Value} {hp : List zC} {x : Int32} {off : Int} (hdg : decode M.2.1 pc = .ok (.ifCond .gt off, 3)) (n1 n2 : Nat) (e1 : (pc : Int) + off = (n1 : Int)) (e2 : pc + 3 = n2) (kt : 0 < x → Z X M d kc ks r hp' n1 L st hp) (kf : ¬ 0 < x → Z X M d kc ks r hp' n2 L st hp) : Z X M d kc ks r hp' pc L (.int x :: st) hp := by
  subst e2
  intro G B p l e R s m args below meth c Q H locs cells slots ls A F h hS h1 h2 h3 h4 hl
  exact lv_if_gt A.1 A.2.1 hdg e1 (fun q => kt q G B p l e R s m args below meth c Q H locs cells slots ls A F h hS h1 h2 h3 h4 hl) (fun q => kf q G B p l e R s m args below meth c Q H locs cells slots ls A F h hS h1 h2 h3 h4 hl)
theorem z_icmp_gt {X : zS} {M : zM} {d kc ks : Nat} {r : Option Value} {hp' : List zC} {pc : Nat} {L : List (Option Value)} {st : List Value} {hp : List zC} {x y : Int32} {off : Int} (hdg : decode M.2.1 pc = .ok (.if_icmp .gt off, 3)) (n1 n2 : Nat) (e1 : (pc : Int) + off = (n1 : Int)) (e2 : pc + 3 = n2) (kt : y < x → Z X M d kc ks r hp' n1 L st hp) (kf : ¬ y < x → Z X M d kc ks r hp' n2 L st hp) : Z X M d kc ks r hp' pc L (.int y :: .int x :: st) hp := by
  subst e2
  intro G B p l e R s m args below meth c Q H locs cells slots ls A F h hS h1 h2 h3 h4 hl
  exact lv_icmp_gt A.1 A.2.1 hdg e1 (fun q => kt q G B p l e R s m args below meth c Q H locs cells slots ls A F h hS h1 h2 h3 h4 hl) (fun q => kf q G B p l e R s m args below meth c Q H locs cells slots ls A F h hS h1 h2 h3 h4 hl)
theorem z_if_le {X : zS} {M : zM} {d kc ks : Nat} {r : Option Value} {hp' : List zC} {pc : Nat} {L : List (Option Value)} {st : List Value} {hp : List zC} {x : Int32} {off : Int} (hdg : decode M.2.1 pc = .ok (.ifCond .le off, 3)) (n1 n2 : Nat) (e1 : (pc : Int) + off = (n1 : Int)) (e2 : pc + 3 = n2) (kt : x ≤ 0 → Z X M d kc ks r hp' n1 L st hp) (kf : ¬ x ≤ 0 → Z X M d kc ks r hp' n2 L st hp) : Z X M d kc ks r hp' pc L (.int x :: st) hp := by
  subst e2
  intro G B p l e R s m args below meth c Q H locs cells slots ls A F h hS h1 h2 h3 h4 hl
  exact lv_if_le A.1 A.2.1 hdg e1 (fun q => kt q G B p l e R s m args below meth c Q H locs cells slots ls A F h hS h1 h2 h3 h4 hl) (fun q => kf q G B p l e R s m args below meth c Q H locs cells slots ls A F h hS h1 h2 h3 h4 hl)
theorem z_icmp_le {X : zS} {M : zM} {d kc ks : Nat} {r : Option Value} {hp' : List zC} {pc : Nat} {L : List (Option Value)} {st : List Value} {hp : List zC} {x y : Int32} {off : Int} (hdg : decode M.2.1 pc = .ok (.if_icmp .le off, 3)) (n1 n2 : Nat) (e1 : (pc : Int) + off = (n1 : Int)) (e2 : pc + 3 = n2) (kt : x ≤ y → Z X M d kc ks r hp' n1 L st hp) (kf : ¬ x ≤ y → Z X M d kc ks r hp' n2 L st hp) : Z X M d kc ks r hp' pc L (.int y :: .int x :: st) hp := by
  subst e2
  intro G B p l e R s m args below meth c Q H locs cells slots ls A F h hS h1 h2 h3 h4 hl
  exact lv_icmp_le A.1 A.2.1 hdg e1 (fun q => kt q G B p l e R s m args below meth c Q H locs cells slots ls A F h hS h1 h2 h3 h4 hl) (fun q => kf q G B p l e R s m args below meth c Q H locs cells slots ls A F h hS h1 h2 h3 h4 hl)
theorem z_goto {X : zS} {M : zM} {d kc ks : Nat} {r : Option Value} {hp' : List zC} {pc : Nat} {L : List (Option Value)} {st : List Value} {hp : List zC} {off : Int} (hdg : decode M.2.1 pc = .ok (.goto off, 3)) (n : Nat) (en : (pc : Int) + off = (n : Int)) (k : Z X M d kc ks r hp' n L st hp) : Z X M d kc ks r hp' pc L st hp := by
  intro G B p l e R s m args below meth c Q H locs cells slots ls A F h hS h1 h2 h3 h4 hl
  exact lv_goto A.1 A.2.1 hdg en (k G B p l e R s m args below meth c Q H locs cells slots ls A F h hS h1 h2 h3 h4 hl)
theorem z_ifnonnull {X : zS} {M : zM} {d kc ks : Nat} {r : Option Value} {hp' : List zC} {pc : Nat} {L : List (Option Value)} {st : List Value} {hp : List zC} {x : Nat} {off : Int} (hdg : decode M.2.1 pc = .ok (.ifnonnull off, 3)) (n : Nat) (en : (pc : Int) + off = (n : Int)) (k : Z X M d kc ks r hp' n L st hp) : Z X M d kc ks r hp' pc L (.ref x :: st) hp := by
  intro G B p l e R s m args below meth c Q H locs cells slots ls A F h hS h1 h2 h3 h4 hl
  exact lv_ifnonnull A.1 A.2.1 hdg en (k G B p l e R s m args below meth c Q H locs cells slots ls A F h hS h1 h2 h3 h4 hl)
theorem z_ifnull {X : zS} {M : zM} {d kc ks : Nat} {r : Option Value} {hp' : List zC} {pc : Nat} {L : List (Option Value)} {st : List Value} {hp : List zC} {x : Nat} {off : Int} (hdg : decode M.2.1 pc = .ok (.ifnull off, 3)) (n : Nat) (en : pc + 3 = n) (k : Z X M d kc ks r hp' n L st hp) : Z X M d kc ks r hp' pc L (.ref x :: st) hp := by
  subst en
  intro G B p l e R s m args below meth c Q H locs cells slots ls A F h hS h1 h2 h3 h4 hl
  exact lv_ifnull A.1 A.2.1 hdg (k G B p l e R s m args below meth c Q H locs cells slots ls A F h hS h1 h2 h3 h4 hl)
theorem z_ifnullN {X : zS} {M : zM} {d kc ks : Nat} {r : Option Value} {hp' : List zC} {pc : Nat} {L : List (Option Value)} {st : List Value} {hp : List zC} {off : Int} (hdg : decode M.2.1 pc = .ok (.ifnull off, 3)) (n : Nat) (en : (pc : Int) + off = (n : Int)) (k : Z X M d kc ks r hp' n L st hp) : Z X M d kc ks r hp' pc L (.null :: st) hp := by
  intro G B p l e R s m args below meth c Q H locs cells slots ls A F h hS h1 h2 h3 h4 hl
  exact lv_ifnullN A.1 A.2.1 hdg en (k G B p l e R s m args below meth c Q H locs cells slots ls A F h hS h1 h2 h3 h4 hl)
theorem z_ifnonnullN {X : zS} {M : zM} {d kc ks : Nat} {r : Option Value} {hp' : List zC} {pc : Nat} {L : List (Option Value)} {st : List Value} {hp : List zC} {off : Int} (hdg : decode M.2.1 pc = .ok (.ifnonnull off, 3)) (n : Nat) (en : pc + 3 = n) (k : Z X M d kc ks r hp' n L st hp) : Z X M d kc ks r hp' pc L (.null :: st) hp := by
  subst en
  intro G B p l e R s m args below meth c Q H locs cells slots ls A F h hS h1 h2 h3 h4 hl
  exact lv_ifnonnullN A.1 A.2.1 hdg (k G B p l e R s m args below meth c Q H locs cells slots ls A F h hS h1 h2 h3 h4 hl)
theorem z_tabOut {X : zS} {M : zM} {d kc ks : Nat} {r : Option Value} {hp' : List zC} {pc : Nat} {L : List (Option Value)} {st : List Value} {hp : List zC} {dflt lo hi : Int} {offs : Array Int} {len : Nat} {x : Int32} (hdg : decode M.2.1 pc = .ok (.tableswitch dflt lo hi offs, len)) (n : Nat) (hx : x.toInt < lo ∨ hi < x.toInt) (en : (pc : Int) + dflt = (n : Int)) (k : Z X M d kc ks r hp' n L st hp) : Z X M d kc ks r hp' pc L (.int x :: st) hp := by
  intro G B p l e R s m args below meth c Q H locs cells slots ls A F h hS h1 h2 h3 h4 hl
  exact lv_tableOut A.1 A.2.1 hdg hx en (k G B p l e R s m args below meth c Q H locs cells slots ls A F h hS h1 h2 h3 h4 hl)
theorem z_tabIn {X : zS} {M : zM} {d kc ks : Nat} {r : Option Value} {hp' : List zC} {pc : Nat} {L : List (Option Value)} {st : List Value} {hp : List zC} {dflt lo hi : Int} {offs : Array Int} {len : Nat} {x : Int32} {off : Int} (hdg : decode M.2.1 pc = .ok (.tableswitch dflt lo hi offs, len)) (n : Nat) (hx1 : ¬ x.toInt < lo) (hx2 : ¬ hi < x.toInt) (ho : offs[(x.toInt - lo).toNat]? = some off) (en : (pc : Int) + off = (n : Int)) (k : Z X M d kc ks r hp' n L st hp) : Z X M d kc ks r hp' pc L (.int x :: st) hp := by
  intro G B p l e R s m args below meth c Q H locs cells slots ls A F h hS h1 h2 h3 h4 hl
  exact lv_tableIn A.1 A.2.1 hdg hx1 hx2 ho en (k G B p l e R s m args below meth c Q H locs cells slots ls A F h hS h1 h2 h3 h4 hl)
theorem z_ret {X : zS} {M : zM} {d kc ks : Nat} {r : Option Value} {hp' : List zC} {pc : Nat} {L : List (Option Value)} {hp : List zC} {v : Value} (hdg : decode M.2.1 pc = .ok (zri (some v), 1)) (hv : some v = r) (hh : hp = hp') : Z X M d kc ks r hp' pc L [v] hp := by
  subst hv
  subst hh
  intro G B p l e R s m args below meth c Q H locs cells slots ls A F h hS h1 h2 h3 h4 hl
  exact F H locs cells slots pc ls h hS (by omega) (by omega) hdg
theorem z_ireturn {X : zS} {M : zM} {d kc ks : Nat} {r : Option Value} {hp' : List zC} {pc : Nat} {L : List (Option Value)} {hp : List zC} {v : Int32} (hdg : decode M.2.1 pc = .ok (.ireturn, 1)) (hv : some (.int v) = r) (hh : hp = hp') : Z X M d kc ks r hp' pc L [.int v] hp := z_ret hdg hv hh
theorem z_areturn {X : zS} {M : zM} {d kc ks : Nat} {r : Option Value} {hp' : List zC} {pc : Nat} {L : List (Option Value)} {hp : List zC} {v : Nat} (hdg : decode M.2.1 pc = .ok (.areturn, 1)) (hv : some (.ref v) = r) (hh : hp = hp') : Z X M d kc ks r hp' pc L [.ref v] hp := z_ret hdg hv hh
theorem z_areturnN {X : zS} {M : zM} {d kc ks : Nat} {r : Option Value} {hp' : List zC} {pc : Nat} {L : List (Option Value)} {hp : List zC} (hdg : decode M.2.1 pc = .ok (.areturn, 1)) (hv : some .null = r) (hh : hp = hp') : Z X M d kc ks r hp' pc L [.null] hp := z_ret hdg hv hh
theorem z_return {X : zS} {M : zM} {d kc ks : Nat} {r : Option Value} {hp' : List zC} {pc : Nat} {L : List (Option Value)} {hp : List zC} (hdg : decode M.2.1 pc = .ok (.return_, 1)) (hv : none = r) (hh : hp = hp') : Z X M d kc ks r hp' pc L [] hp := by
  subst hv
  subst hh
  intro G B p l e R s m args below meth c Q H locs cells slots ls A F h hS h1 h2 h3 h4 hl
  exact F H locs cells slots pc ls h hS (by omega) (by omega) hdg
