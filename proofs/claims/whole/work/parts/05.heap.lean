/-! rows on the heap -/
/-- a field link: own's entry ix names the field k of the class ci -/
def zfl (own : String) (ix ci k : Nat) : Prop := ∃ (ref C : String) (T : u_T) (N : Nat), zCl[ci]? = some (C, T, N) ∧ k < N ∧ (∀ w ∈ u_ws C T N, w ∈ zT) ∧ Cond.fieldLink own ix ref (T k).2.1 (T k).2.2.1 ∈ zT ∧ (ref = (T k).1 ∨ Cond.sameField ref (T k).1 (T k).2.1 (T k).2.2.1 ∈ zT)
theorem z_get {X : zS} {M : zM} {d kc ks : Nat} {r : Option Value} {hp' : List zC} {pc : Nat} {L : List (Option Value)} {st : List Value} {hp : List zC} {ix ci k o : Nat} {fs : List Value} {v : Value} (hdg : decode M.2.1 pc = .ok (.getfield ix, 3)) (n : Nat) (en : pc + 3 = n) (hf : zfl M.1.cls ix ci k) (ho : hp[o]? = some (.inr (.inr (ci, fs)))) (hv : fs[k]? = some v) (kk : Z X M d kc ks r hp' n L (v :: st) hp) : Z X M d kc ks r hp' pc L (.ref o :: st) hp := by
  subst en
  intro G B p l e R s m args below meth c Q H locs cells slots ls A F h hS h1 h2 h3 h4 hl
  obtain ⟨ref, C, T, N, hc, hk, hin, hlk, hsm⟩ := hf
  refine va_get (D := G.1) (C := C) (T := T) (N := N) (ref := ref) A.1 A.2.1 A.2.2.2.2.1 hin A.2.2.2.1 A.2.2.2.2.2.1 h.1 o (zw_at ho) hc k hk (A.2.2.2.2.1 _ hlk) ?_ (v := zr B G.2.2 v) (by rw [List.getElem?_map, hv]; rfl) hdg (kk G B p l e R s m args below meth c Q H locs cells slots ls A F h hS h1 h2 h3 h4 hl)
  intro x hx
  rcases hsm with rfl | hsm
  · exact hx
  · exact u_same (A.2.2.2.2.1 _ hsm) x hx
/-- a class's table words, types, names -/
def zfp (own : String) (ix ci k : Nat) (fin : Bool) (ty : FieldType) : Prop := ∃ (C : String) (T : u_T) (N : Nat) (t : Nat → FieldType), zCl[ci]? = some (C, T, N) ∧ k < N ∧ (∀ w ∈ u_ws C T N, w ∈ zT) ∧ (∀ k, k < N → parseFieldDescriptor (T k).2.2.1 = some (t k)) ∧ (∀ a, a < N → ∀ b, b < N → a ≠ b → (T a).2.1 ≠ (T b).2.1) ∧ Cond.fieldLink own ix (T k).1 (T k).2.1 (T k).2.2.1 ∈ zT ∧ (T k).2.2.2 = fin ∧ (fin = true → (T k).1 = own) ∧ parseFieldDescriptor (T k).2.2.1 = some ty
/-- one cell is written -/
theorem zH.put {G : zG} {B : Nat} {hp : List zC} {H H1 : Heap} {o : Nat} {c0 c1 : zC} (h : zH G B hp H) (ho : hp[o]? = some c0) (he : va_at G.1 zCl (B + o, zrel G B c1) H1) (z : H1.size = H.size) (oq : ∀ q : Nat, q ≠ B + o → H1[q]? = H[q]?) : zH G B (hp.set o c1) H1 := by
  refine ⟨?_, by rw [z, h.2, List.length_set]⟩
  rw [← zw_set]
  exact h.1.set (zw_D G B hp) (zw_at ho) he oq
theorem zrel_obj (G : zG) (B ci : Nat) (fs : List Value) : zrel G B (.inr (.inr (ci, fs))) = .inr (ci, fs.map (zr B G.2.2)) := rfl
theorem z_put {X : zS} {M : zM} {d kc ks : Nat} {r : Option Value} {hp' : List zC} {pc : Nat} {L : List (Option Value)} {st : List Value} {hp : List zC} {ix ci k o : Nat} {fin : Bool} {ty : FieldType} {fs : List Value} {v : Value} (hdg : decode M.2.1 pc = .ok (.putfield ix, 3)) (n : Nat) (en : pc + 3 = n) (hf : zfp M.1.cls ix ci k fin ty) (hi : fin = false ∨ M.1.name = "<init>") (ho : hp[o]? = some (.inr (.inr (ci, fs)))) (hn : ∀ (B : Nat) (Y : Nat → Nat), narrow ty (zr B Y v) = zr B Y v) (hfit : ∀ (B : Nat) (Y : Nat → Nat), fits ty (zr B Y v) = true) (hk' : k < fs.length) (kk : Z X M d kc ks r hp' n L st (hp.set o (.inr (.inr (ci, fs.set k v))))) : Z X M d kc ks r hp' pc L (v :: .ref o :: st) hp := by
  subst en
  intro G B p l e R s m args below meth c Q H locs cells slots ls A F h hS h1 h2 h3 h4 hl
  obtain ⟨C, T, N, t, hc, hk, hin, hty, hnm, hlk, hfin, hdecl, hd⟩ := hf
  have hts := A.2.2.2.2.1
  have hK : zK G s := A.2.2.2.2.2.1
  have hap := va_apart (own := M.1.cls) (D := G.1) hts hin t hty hnm hK hc
  obtain ⟨r0, g1, cell, q1, q2, q3, q4⟩ := h.1 o _ (zw_at ho)
  have hr0 : r0 = (C, T, N) := Option.some.inj (g1.symm.trans hc)
  subst hr0
  obtain ⟨hSl, hfc, kC, hkC, hkind⟩ := hK.1 ci _ hc
  obtain ⟨cf, kf, fi, f, hfi, hsl⟩ := hSl k hk
  have hlay := hts _ (hin _ (u_in_lay hk))
  unfold u_lay at hlay
  have hst := (u_facts hfc hkC (u_lays hts hin hk) hfi).1
  have hcell : ∀ H' : Heap, H'[B + o]? = some (cell.setSlot f.slot (zr B G.2.2 v)) → va_at G.1 zCl (B + o, zrel G B (.inr (.inr (ci, fs.set k v)))) H' := by
    intro H' e1
    rw [hsl] at e1
    refine ⟨_, hc, t_OB.to (V := updV (vp_V (fs.map (zr B G.2.2))) k (zr B G.2.2 v)) ⟨_, e1, q2, q3, t_set q4 hap hk _⟩ (fun j _ => ?_)⟩
    rw [vp_updV_set (by simpa using hk')]
    show vp_V _ j = vp_V ((fs.set k v).map _) j
    rw [List.map_set]
  have fin2 : ∀ (H' : Heap) (sl : Nat), H'[B + o]? = some (cell.setSlot f.slot (zr B G.2.2 v)) → H'.size = H.size → (∀ q, q ≠ B + o → H'[q]? = H[q]?) → W p l e R s m args below meth c H' (locs ++ [⟨B + o, sl⟩]) cells slots Q (F0 m (pc + 3) ls (st.map (zr B G.2.2))) := fun H' sl e1 e2 e3 =>
    kk G B p l e R s m args below meth c Q H' _ cells slots ls A F (h.put ho (hcell H' e1) e2 e3) (hS.put e2 e3 (Nat.le_add_right B o)) h1 h2 h3 h4 hl
  cases fin with
  | false =>
    rw [if_neg (by rw [hfin]; decide)] at hlay
    have h6 := u_store hfc hkC hkind hlay hfi hd (hn B G.2.2) (hfit B G.2.2)
    exact W.putK A.1 A.2.1 (f := f) ⟨A.2.2.2.1, hts _ hlk, ⟨_, _, _, hfi⟩, hst⟩ (by rw [q2]; exact h6) q1 q3 (by rw [hsl]; exact k2_hasslot (q4 k hk)) rfl rfl hdg fun H' e1 e2 e3 => fin2 H' _ e1 e2 e3
  | true =>
    rw [if_pos hfin] at hlay
    have hcf : m.cls = cf := by
      obtain ⟨_, _, c', _, _, _, -, -, hf', -, -, -, hown2, -⟩ := Cond.laysFinal_spec hlay
      have e1 : c' = cf := by have := hfi.symm.trans hf'; simp at this; exact this.1.symm
      rw [hdecl rfl] at hown2
      rw [← e1]; exact Option.some.inj (A.2.2.2.1.symm.trans hown2)
    have h6 := u_fits hfc hkC hkind (Or.inr hlay) hfi hd (hn B G.2.2) (hfit B G.2.2)
    have hin2 : meth.name = "<init>" := by
      rcases hi with hi | hi
      · cases hi
      · rw [← hi]; exact A.2.2.2.2.2.2.2.1
    exact W.putFinK A.1 A.2.1 A.2.2.2.1 (hts _ hlk) hfi hst hcf hin2 (by rw [q2]; exact h6) q1 q3 (by rw [hsl]; exact k2_hasslot (q4 k hk)) rfl rfl hdg fun H' e1 e2 e3 => fin2 H' _ e1 e2 e3
theorem z_putI {X : zS} {M : zM} {d kc ks : Nat} {r : Option Value} {hp' : List zC} {pc : Nat} {L : List (Option Value)} {st : List Value} {hp : List zC} {ix ci k o : Nat} {fin : Bool} {fs : List Value} {v : Int32} (hdg : decode M.2.1 pc = .ok (.putfield ix, 3)) (n : Nat) (en : pc + 3 = n) (hf : zfp M.1.cls ix ci k fin .int) (hi : fin = false ∨ M.1.name = "<init>") (ho : hp[o]? = some (.inr (.inr (ci, fs)))) (hk' : k < fs.length) (kk : Z X M d kc ks r hp' n L st (hp.set o (.inr (.inr (ci, fs.set k (.int v)))))) : Z X M d kc ks r hp' pc L (.int v :: .ref o :: st) hp :=
  z_put hdg n en hf hi ho (fun _ _ => rfl) (fun _ _ => rfl) hk' kk
theorem z_iaload {X : zS} {M : zM} {d kc ks : Nat} {r : Option Value} {hp' : List zC} {pc : Nat} {L : List (Option Value)} {st : List Value} {hp : List zC} {o N : Nat} {f : Nat → Int32} {i : Int32} (hdg : decode M.2.1 pc = .ok (.iaload, 1)) (j n : Nat) (en : pc + 1 = n) (ho : hp[o]? = some (.inl (N, f))) (hj : i = nI j) (hb : j < N) (hN : N < 2 ^ 31) (kk : Z X M d kc ks r hp' n L (.int (f j) :: st) hp) : Z X M d kc ks r hp' pc L (.int i :: .ref o :: st) hp := by
  subst en
  subst hj
  intro G B p l e R s m args below meth c Q H locs cells slots ls A F h hS h1 h2 h3 h4 hl
  have e0 : (nI j).toNatClampNeg = j := nI_clamp (by omega)
  refine va_iald (D := G.1) A.1 A.2.1 A.2.2.2.2.2.1 h.1 o 0 (zw_at ho) rfl (vp_in_nI hb hN) hdg ?_
  rw [e0]
  exact kk G B p l e R s m args below meth c Q H locs cells slots ls A F h hS h1 h2 h3 h4 hl
theorem z_aaload {X : zS} {M : zM} {d kc ks : Nat} {r : Option Value} {hp' : List zC} {pc : Nat} {L : List (Option Value)} {st : List Value} {hp : List zC} {o t N : Nat} {C : String} {f : Nat → Option Nat} {i : Int32} {v : Value} (hdg : decode M.2.1 pc = .ok (.aaload, 1)) (j n : Nat) (en : pc + 1 = n) (ho : hp[o]? = some (.inr (.inl (t, N, f)))) (hC : (t, C) = (0, "LightInRoom$Law") ∨ (t, C) = (1, "LightInRoom$Telling")) (hj : i = nI j) (hb : j < N) (hN : N < 2 ^ 31) (hv : va_rf (f j) = v) (kk : Z X M d kc ks r hp' n L (v :: st) hp) : Z X M d kc ks r hp' pc L (.int i :: .ref o :: st) hp := by
  subst en
  subst hj
  subst hv
  intro G B p l e R s m args below meth c Q H locs cells slots ls A F h hS h1 h2 h3 h4 hl
  have e0 : (nI j).toNatClampNeg = j := nI_clamp (by omega)
  have ht : (zTy G)[t + 1]? = some (G.2.1 (t + 1), .object C) := by
    rcases hC with hC | hC <;> cases hC <;> rfl
  refine va_aldq (D := G.1) (C := C) A.1 A.2.1 A.2.2.2.2.2.1 h.1 o (t + 1) (zw_at ho) ht (vp_in_nI hb hN) hdg ?_
  rw [e0]
  have e2 : va_rf ((f j).map (B + ·)) = zr B G.2.2 (va_rf (f j)) := by cases f j <;> rfl
  rw [e2]
  exact kk G B p l e R s m args below meth c Q H locs cells slots ls A F h hS h1 h2 h3 h4 hl
theorem z_alenI {X : zS} {M : zM} {d kc ks : Nat} {r : Option Value} {hp' : List zC} {pc : Nat} {L : List (Option Value)} {st : List Value} {hp : List zC} {o N : Nat} {f : Nat → Int32} (hdg : decode M.2.1 pc = .ok (.arraylength, 1)) (n : Nat) (en : pc + 1 = n) (ho : hp[o]? = some (.inl (N, f))) (v : Int32) (hv : Int32.ofNat N = v) (kk : Z X M d kc ks r hp' n L (.int v :: st) hp) : Z X M d kc ks r hp' pc L (.ref o :: st) hp := by
  subst en
  intro G B p l e R s m args below meth c Q H locs cells slots ls A F h hS h1 h2 h3 h4 hl
  exact va_alen (D := G.1) A.1 A.2.1 A.2.2.2.2.2.1 h.1 o 0 (zw_at ho) rfl hv hdg (kk G B p l e R s m args below meth c Q H locs cells slots ls A F h hS h1 h2 h3 h4 hl)
theorem z_alenR {X : zS} {M : zM} {d kc ks : Nat} {r : Option Value} {hp' : List zC} {pc : Nat} {L : List (Option Value)} {st : List Value} {hp : List zC} {o t N : Nat} {f : Nat → Option Nat} (hdg : decode M.2.1 pc = .ok (.arraylength, 1)) (n : Nat) (en : pc + 1 = n) (ho : hp[o]? = some (.inr (.inl (t, N, f)))) (ht : t = 0 ∨ t = 1) (v : Int32) (hv : Int32.ofNat N = v) (kk : Z X M d kc ks r hp' n L (.int v :: st) hp) : Z X M d kc ks r hp' pc L (.ref o :: st) hp := by
  subst en
  intro G B p l e R s m args below meth c Q H locs cells slots ls A F h hS h1 h2 h3 h4 hl
  rcases ht with rfl | rfl
  · exact va_alen (D := G.1) A.1 A.2.1 A.2.2.2.2.2.1 h.1 o 1 (zw_at ho) rfl hv hdg (kk G B p l e R s m args below meth c Q H locs cells slots ls A F h hS h1 h2 h3 h4 hl)
  · exact va_alen (D := G.1) A.1 A.2.1 A.2.2.2.2.2.1 h.1 o 2 (zw_at ho) rfl hv hdg (kk G B p l e R s m args below meth c Q H locs cells slots ls A F h hS h1 h2 h3 h4 hl)
theorem z_iastore {X : zS} {M : zM} {d kc ks : Nat} {r : Option Value} {hp' : List zC} {pc : Nat} {L : List (Option Value)} {st : List Value} {hp : List zC} {o N : Nat} {f : Nat → Int32} {i x : Int32} (hdg : decode M.2.1 pc = .ok (.iastore, 1)) (j n : Nat) (en : pc + 1 = n) (ho : hp[o]? = some (.inl (N, f))) (hj : i = nI j) (hb : j < N) (hN : N < 2 ^ 31) (kk : Z X M d kc ks r hp' n L st (hp.set o (.inl (N, upd f j x)))) : Z X M d kc ks r hp' pc L (.int x :: .int i :: .ref o :: st) hp := by
  subst en
  subst hj
  intro G B p l e R s m args below meth c Q H locs cells slots ls A F h hS h1 h2 h3 h4 hl
  have e0 : (nI j).toNatClampNeg = j := nI_clamp (by omega)
  have hK : zK G s := A.2.2.2.2.2.1
  refine W.iast A.1 A.2.1 (h.1 o _ (zw_at ho)) ((hK.2 0 _ rfl).1 N (fun j => .int (f j))) (fun q => by cases q) (by show ¬ (nI j < 0 ∨ (arrV _ _ _).slots.size ≤ _); rw [arrV_size]; exact vp_in_nI hb hN) rfl rfl hdg fun H1 ew z oq => ?_
  refine kk G B p l e R s m args below meth c Q H1 _ cells slots ls A F (h.put ho ?_ z oq) (hS.put z oq (Nat.le_add_right B o)) h1 h2 h3 h4 hl
  show H1[B + o]? = some (vp_cell _ _)
  rw [ew]
  show some ((vp_cell (G.2.1 0) (N, .inl f)).setSlot _ _) = _
  rw [vp_cell_i, vp_cell_i, arrV_store, e0]
  congr 2
  funext q
  by_cases hq : q = j
  · subst hq
    simp [updV, upd]
  · simp [updV, upd, hq]
theorem z_aastore {X : zS} {M : zM} {d kc ks : Nat} {r : Option Value} {hp' : List zC} {pc : Nat} {L : List (Option Value)} {st : List Value} {hp : List zC} {o t N v ci : Nat} {C C1 : String} {T : u_T} {N1 : Nat} {fs : List Value} {f : Nat → Option Nat} {i : Int32} (hdg : decode M.2.1 pc = .ok (.aastore, 1)) (j n : Nat) (en : pc + 1 = n) (ho : hp[o]? = some (.inr (.inl (t, N, f)))) (hv : hp[v]? = some (.inr (.inr (ci, fs)))) (hc : zCl[ci]? = some (C1, T, N1)) (hC : (t = 0 ∧ C1 = "LightInRoom$Law") ∨ (t = 1 ∧ C1 ∈ zCast)) (hj : i = nI j) (hb : j < N) (hN : N < 2 ^ 31) (kk : Z X M d kc ks r hp' n L st (hp.set o (.inr (.inl (t, N, va_up f j (some v)))))) : Z X M d kc ks r hp' pc L (.ref v :: .int i :: .ref o :: st) hp := by
  subst en
  subst hj
  intro G B p l e R s m args below meth c Q H locs cells slots ls A F h hS h1 h2 h3 h4 hl
  have e0 : (nI j).toNatClampNeg = j := nI_clamp (by omega)
  have hK : zK G s := A.2.2.2.2.2.1
  obtain ⟨r', hr', cellV, g1, g2, g3, -⟩ := h.1 v _ (zw_at hv)
  have hcls := (hK.1 ci _ hc).2
  obtain ⟨kC, hkC, -⟩ := hcls.2
  have hinA : ¬ nI j < 0 := nI_pos (by omega)
  have core : ∀ (C : String), (zTy G)[t + 1]? = some (G.2.1 (t + 1), .object C) → (∀ comp : ClassId, s.vm.findClass C = some comp → s.vm.assignable (G.1.1 ci) comp = true) → W p l e R s m args below meth c H locs cells slots Q (F0 m pc ls ((.ref v :: .int (nI j) :: .ref o :: st).map (zr B G.2.2))) := by
    intro C ht hasg
    obtain ⟨kA, comp, k1, k2, k3, -⟩ := (hK.2 (t + 1) _ ht).2
    obtain ⟨kE, hkE, -⟩ := Vm.findClass_spec k3
    refine W.aast A.1 A.2.1 (h.1 o _ (zw_at ho)) (fun q h => by cases h) (fun h => by cases h) k1 k2 rfl hkE ⟨hinA, by show _ < (arrV _ _ _).slots.size; rw [arrV_size, e0]; exact hb⟩ g1 (fun q h => by rw [g3] at h; cases h) (by rw [g2]; exact hkC) (by rw [g2]; exact hasg comp k3) rfl rfl hdg fun H1 ew z oq => ?_
    refine kk G B p l e R s m args below meth c Q H1 _ cells slots ls A F (h.put ho ?_ z oq) (hS.put z oq (Nat.le_add_right B o)) h1 h2 h3 h4 hl
    show H1[B + o]? = some (vp_cell _ _)
    rw [ew]
    show some ((vp_cell (G.2.1 (t + 1)) (N, .inr (.inr (.inr (.inr (fun j => (f j).map (B + ·))))))).setSlot _ _) = _
    rw [vp_cell_q, vp_cell_q, arrV_store, e0]
    congr 2
    funext q
    by_cases hq : q = j
    · subst hq
      simp [updV, va_up, va_rf]
    · simp [updV, va_up, hq]
  rcases hC with ⟨rfl, rfl⟩ | ⟨rfl, hC⟩
  · refine core _ rfl (fun comp hcomp => ?_)
    have : comp = G.1.1 ci := Option.some.inj (hcomp.symm.trans hcls.1)
    subst this
    exact va_assign hcls
  · refine core _ rfl (fun comp hcomp => ?_)
    obtain ⟨c0, t1, f1, f2, f3⟩ := Cond.castable_spec (va_Nw.use (A := args) rfl (A.2.2.2.2.2.2.1.2.1 _ hC))
    cases hcls.1.symm.trans f1
    cases hcomp.symm.trans f2
    exact f3
theorem z_aastoreN {X : zS} {M : zM} {d kc ks : Nat} {r : Option Value} {hp' : List zC} {pc : Nat} {L : List (Option Value)} {st : List Value} {hp : List zC} {o t N : Nat} {f : Nat → Option Nat} {i : Int32} (hdg : decode M.2.1 pc = .ok (.aastore, 1)) (j n : Nat) (en : pc + 1 = n) (ho : hp[o]? = some (.inr (.inl (t, N, f)))) (ht : t = 0 ∨ t = 1) (hj : i = nI j) (hb : j < N) (hN : N < 2 ^ 31) (kk : Z X M d kc ks r hp' n L st (hp.set o (.inr (.inl (t, N, va_up f j none))))) : Z X M d kc ks r hp' pc L (.null :: .int i :: .ref o :: st) hp := by
  subst en
  subst hj
  intro G B p l e R s m args below meth c Q H locs cells slots ls A F h hS h1 h2 h3 h4 hl
  have e0 : (nI j).toNatClampNeg = j := nI_clamp (by omega)
  have hK : zK G s := A.2.2.2.2.2.1
  have ht : ∃ C : String, (zTy G)[t + 1]? = some (G.2.1 (t + 1), .object C) := by rcases ht with rfl | rfl <;> exact ⟨_, rfl⟩
  obtain ⟨C, ht⟩ := ht
  refine va_WaastN (C := C) A.1 A.2.1 (h.1 o _ (zw_at ho)) ((hK.2 (t + 1) _ ht).1 N (fun j => va_rf ((f j).map (B + ·)))) (fun h => by cases h) (by show ¬ (nI j < 0 ∨ (arrV _ _ _).slots.size ≤ _); rw [arrV_size]; exact vp_in_nI hb hN) rfl rfl hdg fun H1 ew z oq => ?_
  refine kk G B p l e R s m args below meth c Q H1 _ cells slots ls A F (h.put ho ?_ z oq) (hS.put z oq (Nat.le_add_right B o)) h1 h2 h3 h4 hl
  show H1[B + o]? = some (vp_cell _ _)
  rw [ew]
  show some ((vp_cell (G.2.1 (t + 1)) (N, .inr (.inr (.inr (.inr (fun j => (f j).map (B + ·))))))).setSlot _ _) = _
  rw [vp_cell_q, vp_cell_q, arrV_store, e0]
  congr 2
  funext q
  by_cases hq : q = j
  · subst hq
    simp [updV, va_up, va_rf]
  · simp [updV, va_up, hq]
