/-! rows that make cells; calls -/
theorem zH.push {G : zG} {B : Nat} {hp : List zC} {H H1 : Heap} {c1 : zC} (h : zH G B hp H) (he : va_at G.1 zCl (H.size, zrel G B c1) H1) (z : H1.size = H.size + 1) (oq : ∀ q : Nat, q < H.size → H1[q]? = H[q]?) : zH G B (hp ++ [c1]) H1 := by
  refine ⟨?_, by rw [z, h.2, List.length_append]; simp; omega⟩
  rw [zw_push, ← h.2]
  refine (h.1.kept (fun k x hx => oq x.1 ((h.1 k x hx).lt))).app (fun k x hx => ?_)
  have hz : k < 1 := (List.getElem?_eq_some_iff.mp hx).1
  rw [show k = 0 by omega] at hx
  cases hx
  exact he
theorem va_S.push {A : Nat → Prop} {H0 H H1 : Heap} {locs : List Loc} (h : va_S A H0 H locs) (z : H1.size = H.size + 1) (oq : ∀ q : Nat, q < H.size → H1[q]? = H[q]?) : va_S A H0 H1 locs :=
  ⟨Nat.le_trans h.1 (by omega), fun x g1 g2 => (oq x (Nat.lt_of_lt_of_le g1 h.1)).trans (h.2.1 x g1 g2), h.2.2⟩
def zcNew (own : String) (ix ci : Nat) (fs : List Value) : Prop := ∃ (C : String) (T : u_T) (N : Nat) (t : Nat → FieldType), zCl[ci]? = some (C, T, N) ∧ (∀ w ∈ u_ws C T N, w ∈ zT) ∧ (∀ k, k < N → parseFieldDescriptor (T k).2.2.1 = some (t k)) ∧ Cond.classLink own ix C ∈ zT ∧ Cond.instantiable C N ∈ zT ∧ Cond.initialized C ∈ zT ∧ (∀ j, j < N → defaultValue (t j) = vp_V fs j) ∧ fs.length = N
theorem z_new {X : zS} {M : zM} {d kc ks : Nat} {r : Option Value} {hp' : List zC} {pc : Nat} {L : List (Option Value)} {st : List Value} {hp : List zC} {ix ci kc1 ks1 : Nat} {fs : List Value} (hdg : decode M.2.1 pc = .ok (.new ix, 3)) (n o : Nat) (hp1 : List zC) (en : pc + 3 = n) (hf : zcNew M.1.cls ix ci fs) (hfs : ∀ (B : Nat) (Y : Nat → Nat), fs.map (zr B Y) = fs) (hkc : kc = kc1 + 1) (hks : ks = ks1 + fs.length) (ho : hp.length = o) (hq : hp ++ [.inr (.inr (ci, fs))] = hp1) (kk : Z X M d kc1 ks1 r hp' n L (.ref o :: st) hp1) : Z X M d kc ks r hp' pc L st hp := by
  subst en
  subst ho
  subst hq
  intro G B p l e R s m args below meth c Q H locs cells slots ls A F h hS h1 h2 h3 h4 hl
  obtain ⟨C, T, N, t, hc, hin, hty, hcl, hinst, hini, hd, hN⟩ := hf
  have hts := A.2.2.2.2.1
  have hK : zK G s := A.2.2.2.2.2.1
  have hKn := hK.1 ci _ hc
  refine W.newcK A.1 A.2.1 A.2.2.2.1 (hts _ hcl) (hts _ hinst) (hts _ hini) rfl hdg (by omega) (by omega) hKn.2.1 rfl fun H1 kC hkC e1 z1 o1 => ?_
  have hH1 : zH G B (hp ++ [.inr (.inr (ci, fs))]) H1 := by
    refine h.push ?_ z1 o1
    refine ⟨_, hc, (u_born t hts hin hKn hkC e1 hty).to (fun j hj => ?_)⟩
    rw [hd j hj]
    show _ = vp_V (fs.map _) j
    rw [hfs]
  have := kk G B p l e R s m args below meth c Q H1 locs (cells + 1) (slots + N) ls A F hH1 (hS.push z1 o1) h1 h2 (by omega) (by omega) hl
  rw [h.2]
  exact this
theorem z_newarray {X : zS} {M : zM} {d kc ks : Nat} {r : Option Value} {hp' : List zC} {pc : Nat} {L : List (Option Value)} {st : List Value} {hp : List zC} {kc1 ks1 : Nat} {i : Int32} (hdg : decode M.2.1 pc = .ok (.newarray .int, 2)) (N : Nat) (n o : Nat) (hp1 : List zC) (en : pc + 2 = n) (hw : Cond.arrayClass .int ∈ zT) (hi : i = nI N) (hN : N < 1000) (hkc : kc = kc1 + 1) (hks : ks = ks1 + N) (ho : hp.length = o) (hq : hp ++ [.inl (N, fun _ => 0)] = hp1) (kk : Z X M d kc1 ks1 r hp' n L (.ref o :: st) hp1) : Z X M d kc ks r hp' pc L (.int i :: st) hp := by
  subst en
  subst ho
  subst hq
  subst hi
  intro G B p l e R s m args below meth c Q H locs cells slots ls A F h hS h1 h2 h3 h4 hl
  have hts := A.2.2.2.2.1
  have hK : zK G s := A.2.2.2.2.2.1
  refine va_newaK (atype := .int) A.1 A.2.1 (hts _ hw) rfl hdg rfl (nI_pos (by omega)) (nI_clamp (by omega)) (by show N * 4 ≤ 536870912; omega) (by omega) (by omega) rfl fun H1 cA e1 z1 o1 hAr hNm => ?_
  have hcA : cA = G.2.1 0 := Option.some.inj (hNm.symm.trans (hK.2 0 _ rfl).2)
  subst hcA
  have hH1 : zH G B (hp ++ [.inl (N, fun _ => 0)]) H1 := h.push e1 z1 o1
  have := kk G B p l e R s m args below meth c Q H1 locs (cells + 1) (slots + N) ls A F hH1 (hS.push z1 o1) h1 h2 (by omega) (by omega) hl
  rw [h.2]
  exact this
theorem z_anewarray {X : zS} {M : zM} {d kc ks : Nat} {r : Option Value} {hp' : List zC} {pc : Nat} {L : List (Option Value)} {st : List Value} {hp : List zC} {kc1 ks1 t ix : Nat} {C : String} {i : Int32} (hdg : decode M.2.1 pc = .ok (.anewarray ix, 3)) (N : Nat) (n o : Nat) (hp1 : List zC) (en : pc + 3 = n) (hC : (t, C) = (0, "LightInRoom$Law") ∨ (t, C) = (1, "LightInRoom$Telling")) (hw : Cond.classLink M.1.cls ix C ∈ zT) (hi : i = nI N) (hN : N < 1000) (hkc : kc = kc1 + 1) (hks : ks = ks1 + N) (ho : hp.length = o) (hq : hp ++ [.inr (.inl (t, N, fun _ => none))] = hp1) (kk : Z X M d kc1 ks1 r hp' n L (.ref o :: st) hp1) : Z X M d kc ks r hp' pc L (.int i :: st) hp := by
  subst en
  subst ho
  subst hq
  subst hi
  intro G B p l e R s m args below meth c Q H locs cells slots ls A F h hS h1 h2 h3 h4 hl
  have hts := A.2.2.2.2.1
  have hK : zK G s := A.2.2.2.2.2.1
  have e0 : (nI N).toNatClampNeg = N := nI_clamp (by omega)
  have hA : va_AO C s := by
    rcases hC with hC | hC <;> cases hC
    · exact A.2.2.2.2.2.2.1.2.2.2.1
    · exact A.2.2.2.2.2.2.1.2.2.2.2.1
  have ht : (zTy G)[t + 1]? = some (G.2.1 (t + 1), .object C) := by
    rcases hC with hC | hC <;> cases hC <;> rfl
  refine W.anew A.1 A.2.1 A.2.2.2.1 (hts _ hw) (va_AO.use hA) rfl hdg rfl (nI_pos (by omega)) (by rw [e0]; omega) (by omega) (by rw [e0]; omega) fun cA kA comp f1 f2 f3 f4 => ?_
  obtain ⟨_, _, _, _, _, g4⟩ := (hK.2 (t + 1) _ ht).2
  have hcA : cA = G.2.1 (t + 1) := Option.some.inj (f1.symm.trans g4)
  subst hcA
  rw [e0]
  generalize hH1 : H.push ({ cls := G.2.1 (t + 1), slots := Array.replicate N .null, vm := .none } : Cell) = H1
  have z1 : H1.size = H.size + 1 := by rw [← hH1, Array.size_push]
  have o1 : ∀ q : Nat, q < H.size → H1[q]? = H[q]? := fun q hq => by rw [← hH1, Array.getElem?_push, if_neg (Nat.ne_of_lt hq)]
  have e1 : H1[H.size]? = some (arrV (G.2.1 (t + 1)) N (fun _ => .null)) := by rw [← hH1, Array.getElem?_push_size, ← arrV_new]
  have hH : zH G B (hp ++ [.inr (.inl (t, N, fun _ => none))]) H1 := h.push e1 z1 o1
  have := kk G B p l e R s m args below meth c Q H1 locs (cells + 1) (slots + N) ls A F hH (hS.push z1 o1) h1 h2 (by omega) (by omega) hl
  rw [h.2]
  exact this
theorem z_objInit {X : zS} {M : zM} {d kc ks : Nat} {r : Option Value} {hp' : List zC} {pc : Nat} {L : List (Option Value)} {st : List Value} {hp : List zC} {ix o : Nat} (hdg : decode M.2.1 pc = .ok (.invokespecial ix, 3)) (n : Nat) (en : pc + 3 = n) (hw1 : Cond.methodLink M.1.cls ix objectInit ∈ zT) (hw2 : Cond.instanceMethod objectInit ∈ zT) (hw3 : Cond.code objectInit ⟨#[0xb1]⟩ 1 none ∈ zT) (hd : 1 ≤ d) (hst : (st.map fun v => v.category).sum ≤ 8) (kk : Z X M d kc ks r hp' n L st hp) : Z X M d kc ks r hp' pc L (.ref o :: st) hp := by
  subst en
  intro G B p l e R s m args below meth c Q H locs cells slots ls A F h hS h1 h2 h3 h4 hl
  have hts := A.2.2.2.2.1
  have hcat : ((st.map (zr B G.2.2)).map fun v => v.category).sum ≤ 8 := by
    rw [List.map_map]
    have : ((fun v => Value.category v) ∘ zr B G.2.2) = fun v => Value.category v := funext fun v => zr_cat B G.2.2 v
    rw [this]; exact hst
  refine W.objInit A.1 A.2.1 A.2.2.2.1 (hts _ hw1) (hts _ hw2) (hts _ hw3) rfl (by rw [A.2.2.1]; exact hl.1) rfl hdg (by omega) (by show 2 * 0 + _ + 12 ≤ _; omega) ?_
  exact kk G B p l e R s m args below meth c Q H locs cells slots ls A F h hS h1 h2 h3 h4 hl
theorem z_cats {B : Nat} {Y : Nat → Nat} {st : List Value} (h : (st.map fun v => v.category).sum ≤ 8) : ((st.map (zr B Y)).map fun v => v.category).sum ≤ 8 := by
  rw [List.map_map]
  have : ((fun v => Value.category v) ∘ zr B Y) = fun v => Value.category v := funext fun v => zr_cat B Y v
  rw [this]; exact h
/-- what the words say of a method, for a call -/
def zcM (M' : zM) (n : Nat) : Prop := Cond.code M'.1 M'.2.1 M'.2.2.1 M'.2.2.2 ∈ zT ∧ Cond.initialized M'.1.cls ∈ zT ∧ (M'.1.cls ≠ "java/lang/invoke/MethodHandle" ∧ M'.1.cls ≠ "java/lang/invoke/VarHandle" ∧ (parseMethodDescriptor M'.1.desc).map (fun d => d.parameters.length) = some n) ∧ M'.2.2.1 ≤ 41
theorem z_callB {X : zS} {M M' : zM} {G : zG} {B : Nat} {p : Program} {R : Room} {s : State} {m : MethodId} {args : Array Value} {meth : Method} {c : Code} {ix nn d d' mc ms : Nat} (A : zAt X M G B p s m args meth c) (hm : zcM M' nn) (hlk : Cond.methodLink M.1.cls ix M'.1 ∈ zT) (hd : d' + 1 ≤ d) (h1 : d ≤ R.frames) (h2 : 60 * d ≤ R.locals) :
    CallB R s args M.1.cls ix M'.1 M'.2.1 M'.2.2.1 M'.2.2.2 (Cond.code M'.1 M'.2.1 M'.2.2.1 M'.2.2.2 :: zT) { frames := d', cells := mc, slots := ms, locals := 60 * d' } mc ms nn :=
  callB_of nn A.2.2.2.2.1 (zT_GI hm.1) rfl rfl rfl (A.2.2.2.2.1 _ hm.2.1) (A.2.2.2.2.1 _ hlk) hm.2.2.1 ⟨Nat.le_trans hd h1, by have := hm.2.2.2; show 8 + (_ + 11) + 60 * d' ≤ _; omega⟩
theorem z_preV {X : zS} {M : zM} {G : zG} {B : Nat} {p : Program} {s : State} {m : MethodId} {args : Array Value} {meth : Method} {c : Code} {H : Heap} {locs : List Loc} {hp : List zC} {o ci : Nat} {fs : List Value} {C : String} {T : u_T} {N : Nat} (A : zAt X M G B p s m args meth c) (hS : va_S (fun q => B ≤ q) s.heap H locs) (h : zH G B hp H) (ho : hp[o]? = some (.inr (.inr (ci, fs)))) (hc : zCl[ci]? = some (C, T, N)) (av : List Value) :
    PreV s H C (B + o) (va_Pc ((.ref o :: av).map (zr B G.2.2)) (fun U => zH G B hp U.heap ∧ zK G U ∧ zX X G B U U.heap)) (av.map (zr B G.2.2)) :=
  ⟨z_blind _, va_recv (D := G.1) A.2.2.2.2.2.1 h.1 hc (zw_at ho), (z_preS A hS h ((.ref o :: av).map (zr B G.2.2))).2⟩
theorem z_invs {X : zS} {M : zM} {d kc ks : Nat} {r : Option Value} {hp' : List zC} {pc : Nat} {L : List (Option Value)} {st : List Value} {hp : List zC} {as : List Value} {v : Value} {M' : zM} {ix nn d' mc ms kc1 ks1 : Nat} {hp1 : List zC} {st0 : List Value} (hdg : decode M.2.1 pc = .ok (.invokestatic ix, 3)) (n : Nat) (en : pc + 3 = n) (hm : zcM M' nn) (hlk : Cond.methodLink M.1.cls ix M'.1 ∈ zT) (hs : Cond.static M'.1 ∈ zT) (hr : Ret d' mc ms M' as hp (some v) hp1) (hst : st0 = (as.reverse ++ st)) (hn : as.length = nn) (hd : d' + 1 ≤ d) (hkc : kc = kc1 + mc) (hks : ks = ks1 + ms) (hw : (st.map fun v => v.category).sum ≤ 8) (kk : Z X M d kc1 ks1 r hp' n L (v :: st) hp1) : Z X M d kc ks r hp' pc L st0 hp := by
  subst en
  subst hst
  intro G B p l e R s m args below meth c Q H locs cells slots ls A F h hS h1 h2 h3 h4 hl
  have hsz : ls.size = M.2.2.1 := hl.1
  have hlen : (as.map (zr B G.2.2)).length = nn := by rw [List.length_map]; exact hn
  refine z_run (X := X) (M := M) (G := G) (av := #[]) (rest := st.map (zr B G.2.2)) (r := ((some v) : Option Value).map (zr B G.2.2)) (hp1 := hp1) hS (va_runS (As := as.map (zr B G.2.2)) ⟨A.1, A.2.1, A.2.2.1, A.2.2.2.1, A.2.2.2.2.1⟩ (hr X l G B) ⟨z_callB A hm hlk hd h1 h2, A.2.2.2.2.1 _ hs⟩ (z_preS A hS h _) rfl hlen hsz (by rw [List.map_append, List.map_reverse]) (lv_room (z_cats hw)) hdg ⟨by omega, by omega⟩) (fun H1 locs1 g1 g2 => ?_)
  exact kk G B p l e R s m args below meth c Q H1 locs1 (cells + mc) (slots + ms) ls A F g1 g2 h1 h2 (by omega) (by omega) hl
theorem z_invv {X : zS} {M : zM} {d kc ks : Nat} {r : Option Value} {hp' : List zC} {pc : Nat} {L : List (Option Value)} {st : List Value} {hp : List zC} {o : Nat} {as : List Value} {v : Value} {M' : zM} {ix nn d' mc ms kc1 ks1 : Nat} {hp1 : List zC} {st0 : List Value} {ci : Nat} {fs : List Value} {C : String} {T : u_T} {N : Nat} (hdg : decode M.2.1 pc = .ok (.invokevirtual ix, 3)) (n : Nat) (en : pc + 3 = n) (hm : zcM M' nn) (hlk : Cond.methodLink M.1.cls ix M'.1 ∈ zT) (hi : Cond.instanceMethod M'.1 ∈ zT) (hsel : Cond.selects C M'.1 M'.1 ∈ zT) (hc : zCl[ci]? = some (C, T, N)) (ho : hp[o]? = some (.inr (.inr (ci, fs)))) (hr : Ret d' mc ms M' (.ref o :: as) hp (some v) hp1) (hst : st0 = (as.reverse ++ .ref o :: st)) (hn : as.length = nn) (hd : d' + 1 ≤ d) (hkc : kc = kc1 + mc) (hks : ks = ks1 + ms) (hw : (st.map fun v => v.category).sum ≤ 8) (kk : Z X M d kc1 ks1 r hp' n L (v :: st) hp1) : Z X M d kc ks r hp' pc L st0 hp := by
  subst en
  subst hst
  intro G B p l e R s m args below meth c Q H locs cells slots ls A F h hS h1 h2 h3 h4 hl
  have hsz : ls.size = M.2.2.1 := hl.1
  have hlen : (as.map (zr B G.2.2)).length = nn := by rw [List.length_map]; exact hn
  refine z_run (X := X) (M := M) (G := G) (av := #[]) (rest := st.map (zr B G.2.2)) (r := ((some v) : Option Value).map (zr B G.2.2)) (hp1 := hp1) hS (va_runV (b := B + o) (C := C) (As := as.map (zr B G.2.2)) ⟨A.1, A.2.1, A.2.2.1, A.2.2.2.1, A.2.2.2.2.1⟩ (hr X l G B) ⟨z_callB A hm hlk hd h1 h2, A.2.2.2.2.1 _ hi, A.2.2.2.2.1 _ hsel⟩ (z_preV A hS h ho hc as) rfl hlen hsz (by rw [List.map_append, List.map_reverse]; rfl) (lv_room (z_cats hw)) hdg ⟨by omega, by omega⟩) (fun H1 locs1 g1 g2 => ?_)
  exact kk G B p l e R s m args below meth c Q H1 locs1 (cells + mc) (slots + ms) ls A F g1 g2 h1 h2 (by omega) (by omega) hl
theorem z_invSN {X : zS} {M : zM} {d kc ks : Nat} {r : Option Value} {hp' : List zC} {pc : Nat} {L : List (Option Value)} {st : List Value} {hp : List zC} {as : List Value} {v : Value} {M' : zM} {ix nn d' mc ms kc1 ks1 : Nat} {hp1 : List zC} {st0 : List Value} (hdg : decode M.2.1 pc = .ok (.invokestatic ix, 3)) (n : Nat) (en : pc + 3 = n) (hm : zcM M' nn) (hlk : (M.1.cls, ix, M'.1) ∈ zNest) (hs : Cond.static M'.1 ∈ zT) (hr : Ret d' mc ms M' as hp (some v) hp1) (hst : st0 = (as.reverse ++ st)) (hn : as.length = nn) (hd : d' + 1 ≤ d) (hkc : kc = kc1 + mc) (hks : ks = ks1 + ms) (hw : (st.map fun v => v.category).sum ≤ 8) (kk : Z X M d kc1 ks1 r hp' n L (v :: st) hp1) : Z X M d kc ks r hp' pc L st0 hp := by
  subst en
  subst hst
  intro G B p l e R s m args below meth c Q H locs cells slots ls A F h hS h1 h2 h3 h4 hl
  have hsz : ls.size = M.2.2.1 := hl.1
  have hlen : (as.map (zr B G.2.2)).length = nn := by rw [List.length_map]; exact hn
  refine z_run (X := X) (M := M) (G := G) (av := #[]) (rest := st.map (zr B G.2.2)) (r := ((some v) : Option Value).map (zr B G.2.2)) (hp1 := hp1) hS (va_runSN (host := "LightInRoom") (As := as.map (zr B G.2.2)) ⟨A.1, A.2.1, A.2.2.1, A.2.2.2.1, A.2.2.2.2.1⟩ (hr X l G B) ⟨va_cnB nn A.2.2.2.2.1 (zT_GI hm.1) rfl rfl rfl (A.2.2.2.2.2.2.1.1 _ hlk) (A.2.2.2.2.1 _ hm.2.1) hm.2.2.1 ⟨Nat.le_trans hd h1, by have := hm.2.2.2; show 8 + (_ + 11) + 60 * d' ≤ _; omega⟩, A.2.2.2.2.1 _ hs, trivial⟩ (z_preS A hS h _) rfl hlen hsz (by rw [List.map_append, List.map_reverse]) (lv_room (z_cats hw)) hdg ⟨by omega, by omega⟩) (fun H1 locs1 g1 g2 => ?_)
  exact kk G B p l e R s m args below meth c Q H1 locs1 (cells + mc) (slots + ms) ls A F g1 g2 h1 h2 (by omega) (by omega) hl
theorem z_invsv {X : zS} {M : zM} {d kc ks : Nat} {r : Option Value} {hp' : List zC} {pc : Nat} {L : List (Option Value)} {st : List Value} {hp : List zC} {as : List Value} {M' : zM} {ix nn d' mc ms kc1 ks1 : Nat} {hp1 : List zC} {st0 : List Value} (hdg : decode M.2.1 pc = .ok (.invokestatic ix, 3)) (n : Nat) (en : pc + 3 = n) (hm : zcM M' nn) (hlk : Cond.methodLink M.1.cls ix M'.1 ∈ zT) (hs : Cond.static M'.1 ∈ zT) (hr : Ret d' mc ms M' as hp none hp1) (hst : st0 = (as.reverse ++ st)) (hn : as.length = nn) (hd : d' + 1 ≤ d) (hkc : kc = kc1 + mc) (hks : ks = ks1 + ms) (hw : (st.map fun v => v.category).sum ≤ 8) (kk : Z X M d kc1 ks1 r hp' n L st hp1) : Z X M d kc ks r hp' pc L st0 hp := by
  subst en
  subst hst
  intro G B p l e R s m args below meth c Q H locs cells slots ls A F h hS h1 h2 h3 h4 hl
  have hsz : ls.size = M.2.2.1 := hl.1
  have hlen : (as.map (zr B G.2.2)).length = nn := by rw [List.length_map]; exact hn
  refine z_run (X := X) (M := M) (G := G) (av := #[]) (rest := st.map (zr B G.2.2)) (r := (none : Option Value).map (zr B G.2.2)) (hp1 := hp1) hS (va_runS (As := as.map (zr B G.2.2)) ⟨A.1, A.2.1, A.2.2.1, A.2.2.2.1, A.2.2.2.2.1⟩ (hr X l G B) ⟨z_callB A hm hlk hd h1 h2, A.2.2.2.2.1 _ hs⟩ (z_preS A hS h _) rfl hlen hsz (by rw [List.map_append, List.map_reverse]) (lv_room (z_cats hw)) hdg ⟨by omega, by omega⟩) (fun H1 locs1 g1 g2 => ?_)
  exact kk G B p l e R s m args below meth c Q H1 locs1 (cells + mc) (slots + ms) ls A F g1 g2 h1 h2 (by omega) (by omega) hl
theorem z_invvv {X : zS} {M : zM} {d kc ks : Nat} {r : Option Value} {hp' : List zC} {pc : Nat} {L : List (Option Value)} {st : List Value} {hp : List zC} {o : Nat} {as : List Value} {M' : zM} {ix nn d' mc ms kc1 ks1 : Nat} {hp1 : List zC} {st0 : List Value} {ci : Nat} {fs : List Value} {C : String} {T : u_T} {N : Nat} (hdg : decode M.2.1 pc = .ok (.invokevirtual ix, 3)) (n : Nat) (en : pc + 3 = n) (hm : zcM M' nn) (hlk : Cond.methodLink M.1.cls ix M'.1 ∈ zT) (hi : Cond.instanceMethod M'.1 ∈ zT) (hsel : Cond.selects C M'.1 M'.1 ∈ zT) (hc : zCl[ci]? = some (C, T, N)) (ho : hp[o]? = some (.inr (.inr (ci, fs)))) (hr : Ret d' mc ms M' (.ref o :: as) hp none hp1) (hst : st0 = (as.reverse ++ .ref o :: st)) (hn : as.length = nn) (hd : d' + 1 ≤ d) (hkc : kc = kc1 + mc) (hks : ks = ks1 + ms) (hw : (st.map fun v => v.category).sum ≤ 8) (kk : Z X M d kc1 ks1 r hp' n L st hp1) : Z X M d kc ks r hp' pc L st0 hp := by
  subst en
  subst hst
  intro G B p l e R s m args below meth c Q H locs cells slots ls A F h hS h1 h2 h3 h4 hl
  have hsz : ls.size = M.2.2.1 := hl.1
  have hlen : (as.map (zr B G.2.2)).length = nn := by rw [List.length_map]; exact hn
  refine z_run (X := X) (M := M) (G := G) (av := #[]) (rest := st.map (zr B G.2.2)) (r := (none : Option Value).map (zr B G.2.2)) (hp1 := hp1) hS (va_runV (b := B + o) (C := C) (As := as.map (zr B G.2.2)) ⟨A.1, A.2.1, A.2.2.1, A.2.2.2.1, A.2.2.2.2.1⟩ (hr X l G B) ⟨z_callB A hm hlk hd h1 h2, A.2.2.2.2.1 _ hi, A.2.2.2.2.1 _ hsel⟩ (z_preV A hS h ho hc as) rfl hlen hsz (by rw [List.map_append, List.map_reverse]; rfl) (lv_room (z_cats hw)) hdg ⟨by omega, by omega⟩) (fun H1 locs1 g1 g2 => ?_)
  exact kk G B p l e R s m args below meth c Q H1 locs1 (cells + mc) (slots + ms) ls A F g1 g2 h1 h2 (by omega) (by omega) hl
theorem z_invSNv {X : zS} {M : zM} {d kc ks : Nat} {r : Option Value} {hp' : List zC} {pc : Nat} {L : List (Option Value)} {st : List Value} {hp : List zC} {as : List Value} {M' : zM} {ix nn d' mc ms kc1 ks1 : Nat} {hp1 : List zC} {st0 : List Value} (hdg : decode M.2.1 pc = .ok (.invokestatic ix, 3)) (n : Nat) (en : pc + 3 = n) (hm : zcM M' nn) (hlk : (M.1.cls, ix, M'.1) ∈ zNest) (hs : Cond.static M'.1 ∈ zT) (hr : Ret d' mc ms M' as hp none hp1) (hst : st0 = (as.reverse ++ st)) (hn : as.length = nn) (hd : d' + 1 ≤ d) (hkc : kc = kc1 + mc) (hks : ks = ks1 + ms) (hw : (st.map fun v => v.category).sum ≤ 8) (kk : Z X M d kc1 ks1 r hp' n L st hp1) : Z X M d kc ks r hp' pc L st0 hp := by
  subst en
  subst hst
  intro G B p l e R s m args below meth c Q H locs cells slots ls A F h hS h1 h2 h3 h4 hl
  have hsz : ls.size = M.2.2.1 := hl.1
  have hlen : (as.map (zr B G.2.2)).length = nn := by rw [List.length_map]; exact hn
  refine z_run (X := X) (M := M) (G := G) (av := #[]) (rest := st.map (zr B G.2.2)) (r := (none : Option Value).map (zr B G.2.2)) (hp1 := hp1) hS (va_runSN (host := "LightInRoom") (As := as.map (zr B G.2.2)) ⟨A.1, A.2.1, A.2.2.1, A.2.2.2.1, A.2.2.2.2.1⟩ (hr X l G B) ⟨va_cnB nn A.2.2.2.2.1 (zT_GI hm.1) rfl rfl rfl (A.2.2.2.2.2.2.1.1 _ hlk) (A.2.2.2.2.1 _ hm.2.1) hm.2.2.1 ⟨Nat.le_trans hd h1, by have := hm.2.2.2; show 8 + (_ + 11) + 60 * d' ≤ _; omega⟩, A.2.2.2.2.1 _ hs, trivial⟩ (z_preS A hS h _) rfl hlen hsz (by rw [List.map_append, List.map_reverse]) (lv_room (z_cats hw)) hdg ⟨by omega, by omega⟩) (fun H1 locs1 g1 g2 => ?_)
  exact kk G B p l e R s m args below meth c Q H1 locs1 (cells + mc) (slots + ms) ls A F g1 g2 h1 h2 (by omega) (by omega) hl
theorem z_invI {X : zS} {M : zM} {d kc ks : Nat} {r : Option Value} {hp' : List zC} {pc : Nat} {L : List (Option Value)} {st : List Value} {hp : List zC} {o : Nat} {as : List Value} {M' : zM} {ix nn d' mc ms kc1 ks1 : Nat} {hp1 : List zC} {st0 : List Value} (hdg : decode M.2.1 pc = .ok (.invokespecial ix, 3)) (n : Nat) (en : pc + 3 = n) (hm : zcM M' nn) (hlk : Cond.methodLink M.1.cls ix M'.1 ∈ zT) (hi : Cond.instanceMethod M'.1 ∈ zT) (hnm : M'.1.name = "<init>") (hvr : M'.2.2.2 = none) (hr : Ret d' mc ms M' (.ref o :: as) hp none hp1) (hst : st0 = (as.reverse ++ .ref o :: st)) (hn : as.length = nn) (hd : d' + 1 ≤ d) (hkc : kc = kc1 + mc) (hks : ks = ks1 + ms) (hw : (st.map fun v => v.category).sum ≤ 8) (kk : Z X M d kc1 ks1 r hp' n L st hp1) : Z X M d kc ks r hp' pc L st0 hp := by
  subst en
  subst hst
  intro G B p l e R s m args below meth c Q H locs cells slots ls A F h hS h1 h2 h3 h4 hl
  have hsz : ls.size = M.2.2.1 := hl.1
  have hlen : (as.map (zr B G.2.2)).length = nn := by rw [List.length_map]; exact hn
  refine z_run (X := X) (M := M) (G := G) (av := #[]) (rest := st.map (zr B G.2.2)) (r := (none : Option Value).map (zr B G.2.2)) (hp1 := hp1) hS (va_runI (b := B + o) (As := as.map (zr B G.2.2)) ⟨A.1, A.2.1, A.2.2.1, A.2.2.2.1, A.2.2.2.2.1⟩ (hr X l G B) ⟨by have := z_callB (mc := mc) (ms := ms) A hm hlk hd h1 h2; rw [hvr] at this ⊢; exact this, hnm, A.2.2.2.2.1 _ hi⟩ (z_preS A hS h ((.ref o :: as).map (zr B G.2.2))) rfl hlen hsz (by rw [List.map_append, List.map_reverse]; rfl) (lv_room (z_cats hw)) hdg ⟨by omega, by omega⟩) (fun H1 locs1 g1 g2 => ?_)
  exact kk G B p l e R s m args below meth c Q H1 locs1 (cells + mc) (slots + ms) ls A F g1 g2 h1 h2 (by omega) (by omega) hl
theorem z_invIN {X : zS} {M : zM} {d kc ks : Nat} {r : Option Value} {hp' : List zC} {pc : Nat} {L : List (Option Value)} {st : List Value} {hp : List zC} {o : Nat} {as : List Value} {M' : zM} {ix nn d' mc ms kc1 ks1 : Nat} {hp1 : List zC} {st0 : List Value} (hdg : decode M.2.1 pc = .ok (.invokespecial ix, 3)) (n : Nat) (en : pc + 3 = n) (hm : zcM M' nn) (hlk : (M.1.cls, ix, M'.1) ∈ zNest) (hi : Cond.instanceMethod M'.1 ∈ zT) (hnm : M'.1.name = "<init>") (hvr : M'.2.2.2 = none) (hr : Ret d' mc ms M' (.ref o :: as) hp none hp1) (hst : st0 = (as.reverse ++ .ref o :: st)) (hn : as.length = nn) (hd : d' + 1 ≤ d) (hkc : kc = kc1 + mc) (hks : ks = ks1 + ms) (hw : (st.map fun v => v.category).sum ≤ 8) (kk : Z X M d kc1 ks1 r hp' n L st hp1) : Z X M d kc ks r hp' pc L st0 hp := by
  subst en
  subst hst
  intro G B p l e R s m args below meth c Q H locs cells slots ls A F h hS h1 h2 h3 h4 hl
  have hsz : ls.size = M.2.2.1 := hl.1
  have hlen : (as.map (zr B G.2.2)).length = nn := by rw [List.length_map]; exact hn
  refine z_run (X := X) (M := M) (G := G) (av := #[]) (rest := st.map (zr B G.2.2)) (r := (none : Option Value).map (zr B G.2.2)) (hp1 := hp1) hS (va_runIN (b := B + o) (host := "LightInRoom") (As := as.map (zr B G.2.2)) ⟨A.1, A.2.1, A.2.2.1, A.2.2.2.1, A.2.2.2.2.1⟩ (hr X l G B) ⟨by have := va_cnB (R := R) (mc := mc) (ms := ms) (rm := { frames := d', cells := mc, slots := ms, locals := 60 * d' }) nn A.2.2.2.2.1 (zT_GI hm.1) rfl rfl rfl (A.2.2.2.2.2.2.1.1 _ hlk) (A.2.2.2.2.1 _ hm.2.1) hm.2.2.1 ⟨Nat.le_trans hd h1, by have := hm.2.2.2; show 8 + (_ + 11) + 60 * d' ≤ _; omega⟩; rw [hvr] at this ⊢; exact this, hnm, A.2.2.2.2.1 _ hi⟩ (z_preS A hS h ((.ref o :: as).map (zr B G.2.2))) rfl hlen hsz (by rw [List.map_append, List.map_reverse]; rfl) (lv_room (z_cats hw)) hdg ⟨by omega, by omega⟩) (fun H1 locs1 g1 g2 => ?_)
  exact kk G B p l e R s m args below meth c Q H1 locs1 (cells + mc) (slots + ms) ls A F g1 g2 h1 h2 (by omega) (by omega) hl
theorem z_invU {X : zS} {M : zM} {d kc ks : Nat} {r : Option Value} {hp' : List zC} {pc : Nat} {L : List (Option Value)} {st : List Value} {hp : List zC} {o : Nat} {as : List Value} {v : Value} {M' : zM} {ix nn d' mc ms kc1 ks1 : Nat} {hp1 : List zC} {st0 : List Value} {ci : Nat} {fs : List Value} {C : String} {T : u_T} {N : Nat} {x : MethodName} (hdg : decode M.2.1 pc = .ok (.invokevirtual ix, 3)) (n : Nat) (en : pc + 3 = n) (hm : zcM M' nn) (hlk : Cond.methodLink M.1.cls ix x ∈ zT) (hsm : Cond.sameMethod x.cls x.cls x.name x.desc ∈ zT) (hsel : Cond.selects C x M'.1 ∈ zT) (hi : Cond.instanceMethod M'.1 ∈ zT) (hxd : x.cls ≠ "java/lang/invoke/MethodHandle" ∧ x.cls ≠ "java/lang/invoke/VarHandle" ∧ (parseMethodDescriptor x.desc).map (fun d => d.parameters.length) = some nn) (hxd2 : x ∈ zDecl ∨ x = M'.1) (hc : zCl[ci]? = some (C, T, N)) (ho : hp[o]? = some (.inr (.inr (ci, fs)))) (hr : Ret d' mc ms M' (.ref o :: as) hp (some v) hp1) (hst : st0 = (as.reverse ++ .ref o :: st)) (hn : as.length = nn) (hd : d' + 1 ≤ d) (hkc : kc = kc1 + mc) (hks : ks = ks1 + ms) (hw : (st.map fun v => v.category).sum ≤ 8) (kk : Z X M d kc1 ks1 r hp' n L (v :: st) hp1) : Z X M d kc ks r hp' pc L st0 hp := by
  subst en
  subst hst
  intro G B p l e R s m args below meth c Q H locs cells slots ls A F h hS h1 h2 h3 h4 hl
  have hsz : ls.size = M.2.2.1 := hl.1
  have hlen : (as.map (zr B G.2.2)).length = nn := by rw [List.length_map]; exact hn
  refine z_run (X := X) (M := M) (G := G) (av := #[]) (rest := st.map (zr B G.2.2)) (r := ((some v) : Option Value).map (zr B G.2.2)) (hp1 := hp1) hS (va_runU (b := B + o) (C := C) (owner := x.cls) (x := x) (As := as.map (zr B G.2.2)) ⟨A.1, A.2.1, A.2.2.1, A.2.2.2.1, A.2.2.2.2.1⟩ (hr X l G B) ⟨⟨rfl, rfl, Nat.le_trans hd h1, by have := hm.2.2.2; show 8 + (_ + 11) + 60 * d' ≤ _; omega, pay_in A.2.2.2.2.1 (zT_GI hm.1), List.mem_cons_self⟩, A.2.2.2.2.1 _ hm.1, A.2.2.2.2.1 _ hm.2.1, ⟨hxd.1, hxd.2.1⟩, (fun sig hsig => by have h2 := hxd.2.2; rw [hsig] at h2; exact (Option.some.inj h2).symm), A.2.2.2.2.1 _ hlk, A.2.2.2.2.1 _ hsm, (by
      rcases hxd2 with hxd2 | rfl
      · exact va_Decl.abs (A.2.2.2.2.2.2.1.2.2.1 _ hxd2)
      · exact va_Decl.of (A.2.2.2.2.1 _ hi) (A.2.2.2.2.1 _ hm.1)), A.2.2.2.2.1 _ hsel, A.2.2.2.2.1 _ hi⟩ (z_preV A hS h ho hc as) rfl hlen hsz (by rw [List.map_append, List.map_reverse]; rfl) (lv_room (z_cats hw)) hdg ⟨by omega, by omega⟩) (fun H1 locs1 g1 g2 => ?_)
  exact kk G B p l e R s m args below meth c Q H1 locs1 (cells + mc) (slots + ms) ls A F g1 g2 h1 h2 (by omega) (by omega) hl
theorem z_invSU {X : zS} {M : zM} {d kc ks : Nat} {r : Option Value} {hp' : List zC} {pc : Nat} {L : List (Option Value)} {st : List Value} {hp : List zC} {o : Nat} {as : List Value} {v : Value} {M' : zM} {ix nn d' mc ms kc1 ks1 : Nat} {hp1 : List zC} {st0 : List Value} {ci : Nat} {fs : List Value} {C : String} {T : u_T} {N : Nat} (hdg : decode M.2.1 pc = .ok (.invokespecial ix, 3)) (n : Nat) (en : pc + 3 = n) (hm : zcM M' nn) (hlk : Cond.methodLink M.1.cls ix M'.1 ∈ zT) (hsm : Cond.sameMethod M'.1.cls M'.1.cls M'.1.name M'.1.desc ∈ zT) (hsup : Cond.superclass M.1.cls M'.1.cls ∈ zT) (hi : Cond.instanceMethod M'.1 ∈ zT) (hnm : M'.1.name ≠ "<init>") (hc : zCl[ci]? = some (C, T, N)) (ho : hp[o]? = some (.inr (.inr (ci, fs)))) (hr : Ret d' mc ms M' (.ref o :: as) hp (some v) hp1) (hst : st0 = (as.reverse ++ .ref o :: st)) (hn : as.length = nn) (hd : d' + 1 ≤ d) (hkc : kc = kc1 + mc) (hks : ks = ks1 + ms) (hw : (st.map fun v => v.category).sum ≤ 8) (kk : Z X M d kc1 ks1 r hp' n L (v :: st) hp1) : Z X M d kc ks r hp' pc L st0 hp := by
  subst en
  subst hst
  intro G B p l e R s m args below meth c Q H locs cells slots ls A F h hS h1 h2 h3 h4 hl
  have hsz : ls.size = M.2.2.1 := hl.1
  have hlen : (as.map (zr B G.2.2)).length = nn := by rw [List.length_map]; exact hn
  refine z_run (X := X) (M := M) (G := G) (av := #[]) (rest := st.map (zr B G.2.2)) (r := ((some v) : Option Value).map (zr B G.2.2)) (hp1 := hp1) hS (va_runSU (b := B + o) (C := C) (As := as.map (zr B G.2.2)) (A.2.2.2.2.2.1.1 ci _ hc).2 ⟨A.1, A.2.1, A.2.2.1, A.2.2.2.1, A.2.2.2.2.1⟩ (hr X l G B) ⟨⟨rfl, rfl, Nat.le_trans hd h1, by have := hm.2.2.2; show 8 + (_ + 11) + 60 * d' ≤ _; omega, pay_in A.2.2.2.2.1 (zT_GI hm.1), List.mem_cons_self⟩, A.2.2.2.2.1 _ hlk, A.2.2.2.2.1 _ hsm, A.2.2.2.2.1 _ hsup, A.2.2.2.2.1 _ hi, A.2.2.2.2.1 _ hm.2.1, A.2.2.2.2.1 _ hm.1, hnm, (fun sig hsig => by have h2 := hm.2.2.1.2.2; rw [hsig] at h2; exact (Option.some.inj h2).symm)⟩ (z_preV A hS h ho hc as) rfl hlen hsz (by rw [List.map_append, List.map_reverse]; rfl) (lv_room (z_cats hw)) hdg ⟨by omega, by omega⟩) (fun H1 locs1 g1 g2 => ?_)
  exact kk G B p l e R s m args below meth c Q H1 locs1 (cells + mc) (slots + ms) ls A F g1 g2 h1 h2 (by omega) (by omega) hl
theorem z_mmax {X : zS} {M : zM} {d kc ks : Nat} {r : Option Value} {hp' : List zC} {pc : Nat} {L : List (Option Value)} {st : List Value} {hp : List zC} {ix : Nat} {x y : Int32} (hdg : decode M.2.1 pc = .ok (.invokestatic ix, 3)) (n : Nat) (en : pc + 3 = n) (hw1 : Cond.methodLink M.1.cls ix Lib.Math.max.name ∈ zT) (hw2 : Cond.static Lib.Math.max.name ∈ zT) (hw3 : Cond.initialized "java/lang/Math" ∈ zT) (hw4 : Cond.code Lib.Math.max.name Lib.Math.max.code 2 (some .int) ∈ zT) (hd : 1 ≤ d) (hst : (st.map fun v => v.category).sum ≤ 8) (kk : Z X M d kc ks r hp' n L (.int (if x < y then y else x) :: st) hp) : Z X M d kc ks r hp' pc L (.int y :: .int x :: st) hp := by
  subst en
  intro G B p l e R s m args below meth c Q H locs cells slots ls A F h hS h1 h2 h3 h4 hl
  have hts := A.2.2.2.2.1
  have hcat := z_cats (B := B) (Y := G.2.2) hst
  exact va_mmax A.1 A.2.1 (by rw [A.2.2.1]; exact hl.1.symm) A.2.2.2.1 (hts _ hw1) (hts _ hw2) (hts _ hw3) (hts _ hw4) (by omega) (by omega) (by omega) (by omega) hdg (kk G B p l e R s m args below meth c Q H locs cells slots ls A F h hS h1 h2 h3 h4 hl)
theorem z_mmin {X : zS} {M : zM} {d kc ks : Nat} {r : Option Value} {hp' : List zC} {pc : Nat} {L : List (Option Value)} {st : List Value} {hp : List zC} {ix : Nat} {x y : Int32} (hdg : decode M.2.1 pc = .ok (.invokestatic ix, 3)) (n : Nat) (en : pc + 3 = n) (hw1 : Cond.methodLink M.1.cls ix Lib.Math.min.name ∈ zT) (hw2 : Cond.static Lib.Math.min.name ∈ zT) (hw3 : Cond.initialized "java/lang/Math" ∈ zT) (hw4 : Cond.code Lib.Math.min.name Lib.Math.min.code 2 (some .int) ∈ zT) (hd : 1 ≤ d) (hst : (st.map fun v => v.category).sum ≤ 8) (kk : Z X M d kc ks r hp' n L (.int (if y < x then y else x) :: st) hp) : Z X M d kc ks r hp' pc L (.int y :: .int x :: st) hp := by
  subst en
  intro G B p l e R s m args below meth c Q H locs cells slots ls A F h hS h1 h2 h3 h4 hl
  have hts := A.2.2.2.2.1
  have hcat := z_cats (B := B) (Y := G.2.2) hst
  exact va_mmin A.1 A.2.1 (by rw [A.2.2.1]; exact hl.1.symm) A.2.2.2.1 (hts _ hw1) (hts _ hw2) (hts _ hw3) (hts _ hw4) (by omega) (by omega) (by omega) (by omega) hdg (kk G B p l e R s m args below meth c Q H locs cells slots ls A F h hS h1 h2 h3 h4 hl)
