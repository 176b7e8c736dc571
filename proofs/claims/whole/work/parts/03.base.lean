/-! MY OWN MACHINE OVER THE KIT: the heap from the law's entry on is a list of cells; a reference is its place in that list (an old cell is .retAddr n); a method answers and leaves a list -/
def zT : List Cond := lw_tbl.filter goodWord
theorem zT_good : ∀ w ∈ zT, goodWord w = true := fun w h => (List.mem_filter.mp h).2
theorem zT_sub : ∀ w ∈ zT, w ∈ lw_tbl := fun w h => (List.mem_filter.mp h).1
theorem zT_in {w : Cond} (i : Nat) (h : lw_tbl[i]? = some w) (g : goodWord w = true) : w ∈ zT := List.mem_filter.mpr ⟨List.mem_of_getElem? h, g⟩
theorem zT_GI {w : Cond} (hw : w ∈ zT) : GoodIn zT (w :: zT) := fun v h => by
  rcases List.mem_cons.mp h with rfl | h
  · exact ⟨hw, good_of_word (zT_good _ hw)⟩
  · exact ⟨h, good_of_word (zT_good _ h)⟩
/-- a cell: an array of ints; an array of references (kind 0 Law, 1 Telling); an object -/
abbrev zC : Type := (Nat × (Nat → Int32)) ⊕ ((Nat × Nat × (Nat → Option Nat)) ⊕ (Nat × List Value))
/-- (classes, slots), array classes (0 int, 1 Law, 2 Telling), old addresses (0 script, 1 string, 2 its bytes) -/
abbrev zG : Type := va_G × (Nat → ClassId) × (Nat → Nat)
/-- the script: how many, which -/
abbrev zS : Type := Nat × (Nat → Int32)
abbrev zM : Type := MethodName × ByteArray × Nat × Option FieldType
def zr (B : Nat) (Y : Nat → Nat) : Value → Value
  | .ref k => .ref (B + k)
  | .retAddr n => .ref (Y n)
  | v => v
def zrel (G : zG) (B : Nat) : zC → va_E
  | .inl a => .inl (G.2.1 0, a.1, .inl a.2)
  | .inr (.inl a) => .inl (G.2.1 (a.1 + 1), a.2.1, .inr (.inr (.inr (.inr (fun j => (a.2.2 j).map (B + ·))))))
  | .inr (.inr a) => .inr (a.1, a.2.map (zr B G.2.2))
def zw (G : zG) (B : Nat) (hp : List zC) : va_W := hp.mapIdx (fun k c => (B + k, zrel G B c))
theorem zw_get (G : zG) (B : Nat) (hp : List zC) (k : Nat) : (zw G B hp)[k]? = (hp[k]?).map (fun c => (B + k, zrel G B c)) := List.getElem?_mapIdx
theorem zw_at {G : zG} {B : Nat} {hp : List zC} {k : Nat} {c : zC} (h : hp[k]? = some c) : (zw G B hp)[k]? = some (B + k, zrel G B c) := by rw [zw_get, h]; rfl
theorem zw_inv {G : zG} {B : Nat} {hp : List zC} {k : Nat} {q : Nat × va_E} (h : (zw G B hp)[k]? = some q) : ∃ c, hp[k]? = some c ∧ q = (B + k, zrel G B c) := by
  rw [zw_get] at h
  cases hc : hp[k]? with
  | none => rw [hc] at h; cases h
  | some c => rw [hc] at h; exact ⟨c, rfl, (Option.some.inj h).symm⟩
theorem zw_D (G : zG) (B : Nat) (hp : List zC) : va_D (fun q : Nat => B ≤ q) (zw G B hp) := by
  refine ⟨fun i j p q hi hj hpq => ?_, fun k q hk => ?_⟩
  · obtain ⟨c1, -, rfl⟩ := zw_inv hi
    obtain ⟨c2, -, rfl⟩ := zw_inv hj
    have : B + i = B + j := hpq
    omega
  · obtain ⟨c, -, rfl⟩ := zw_inv hk
    exact Nat.le_add_right B k
theorem zw_set (G : zG) (B : Nat) (hp : List zC) (k : Nat) (c : zC) : (zw G B hp).set k (B + k, zrel G B c) = zw G B (hp.set k c) := by
  apply List.ext_getElem?
  intro i
  rw [zw_get]
  by_cases h : i = k
  · subst h
    by_cases hl : i < hp.length
    · rw [List.getElem?_set_self (by simpa [zw] using hl), List.getElem?_set_self hl]; rfl
    · rw [List.getElem?_eq_none (by simpa [zw] using hl), List.getElem?_eq_none (by simpa using hl)]; rfl
  · rw [List.getElem?_set_ne (Ne.symm h), List.getElem?_set_ne (Ne.symm h), zw_get]
theorem zw_push (G : zG) (B : Nat) (hp : List zC) (c : zC) : zw G B (hp ++ [c]) = zw G B hp ++ [(B + hp.length, zrel G B c)] := by
  simp [zw, List.mapIdx_append]
/-- the heap H holds the list hp from B on, and nothing more -/
def zH (G : zG) (B : Nat) (hp : List zC) (H : Heap) : Prop := va_P G.1 zCl (zw G B hp) H ∧ H.size = B + hp.length
abbrev zTy (G : zG) : List (ClassId × FieldType) := [(G.2.1 0, .int), (G.2.1 1, .object "LightInRoom$Law"), (G.2.1 2, .object "LightInRoom$Telling")]
abbrev zK (G : zG) (U : State) : Prop := va_K G.1 zCl (zTy G) U
def zNest : List (String × Nat × MethodName) := [("LightInRoom$Room", 39, m_Ben_init.1), ("LightInRoom$Tape", 55, m_Lir_hasBit.1), ("LightInRoom$Law", 28, m_Lir_hasBit.1), ("LightInRoom$Telling", 39, m_Lir_hasBit.1), ("LightInRoom$Room", 135, m_Lir_hasBit.1), ("LightInRoom$Law", 19, m_Lir_copyRow.1), ("LightInRoom$Room", 56, m_Lir_copyRow.1)]
def zCast : List String := ["LightInRoom$Called", "LightInRoom$Eye", "LightInRoom$Through", "LightInRoom$Near", "LightInRoom$Grown", "LightInRoom$Without"]
def zDecl : List MethodName := [⟨"LightInRoom$Telling", "kindNumber", "()I"⟩, ⟨"LightInRoom$Telling", "ownWeight", "()I"⟩]
def zStr : List Int32 := [98, 104, 117, 119, 110, 109, 111, 112]
/-- the two statics that the string's methods read -/
def zSt (t : Nat) (A : Nat → Prop) (U : State) (H : Heap) : Prop := va_Z "java/lang/String" "COMPACT_STRINGS" "Z" (.int 1) A U H ∧ (va_Z "jdk/internal/util/Preconditions" "SIOOBE_FORMATTER" "Ljava/util/function/BiFunction;" .null A U H ∨ va_Z "jdk/internal/util/Preconditions" "SIOOBE_FORMATTER" "Ljava/util/function/BiFunction;" (.ref t) A U H)
theorem zSt.moved {t : Nat} {A : Nat → Prop} {u U : State} {H : Heap} (hvm : u.vm.Alike U.vm) (h : zSt t A u H) : zSt t A U H := by
  refine ⟨h.1.moved hvm, ?_⟩
  rcases h.2 with h | h
  · exact Or.inl (h.moved hvm)
  · exact Or.inr (h.moved hvm)
theorem zSt.kept {t : Nat} {A : Nat → Prop} {U : State} {H H1 : Heap} (h : zSt t A U H) (hq : ∀ a : Nat, a < H.size → ¬ A a → H1[a]? = H[a]?) : zSt t A U H1 := by
  refine ⟨h.1.kept hq, ?_⟩
  rcases h.2 with h | h
  · exact Or.inl (h.kept hq)
  · exact Or.inr (h.kept hq)
/-- what else is known of the tables and of the old heap -/
def zX (X : zS) (G : zG) (B : Nat) (U : State) (H : Heap) : Prop :=
  (∀ q ∈ zNest, va_Nw (.methodLinkNest q.1 q.2.1 q.2.2 "LightInRoom") U) ∧ (∀ q ∈ zCast, va_Nw (.castable q "LightInRoom$Telling") U) ∧ (∀ q ∈ zDecl, va_Nw (.declares q) U) ∧ va_AO "LightInRoom$Law" U ∧ va_AO "LightInRoom$Telling" U ∧ vk_R "LightInRoom$Tape" 101 "bhuwnmop" (G.2.2 1) U ∧ vk_S 1 [8] [zStr] (fun _ => G.2.2 1) (fun _ => G.2.2 2) (fun q => B ≤ q) U H ∧ zSt (G.2.2 3) (fun q => B ≤ q) U H ∧ va_X (G.2.2 0) X.1 X.2 U H ∧ G.2.2 0 < B
theorem zX.moved {X : zS} {G : zG} {B : Nat} {s U : State} {H : Heap} (hW : s.WarmedH U.vm) (h : zX X G B s H) : zX X G B U H :=
  ⟨fun q hq => (h.1 q hq).warmM hW, fun q hq => (h.2.1 q hq).warmC hW, fun q hq => (h.2.2.1 q hq).warmD hW, h.2.2.2.1.moved hW.alike, h.2.2.2.2.1.moved hW.alike, h.2.2.2.2.2.1.warm hW, h.2.2.2.2.2.2.1.moved hW.alike, h.2.2.2.2.2.2.2.1.moved hW.alike, h.2.2.2.2.2.2.2.2.1.moved hW.alike, h.2.2.2.2.2.2.2.2.2⟩
theorem zX.kept {X : zS} {G : zG} {B : Nat} {U : State} {H H1 : Heap} (hq : ∀ a : Nat, a < H.size → ¬ B ≤ a → H1[a]? = H[a]?) (hB : B ≤ H.size) (h : zX X G B U H) : zX X G B U H1 :=
  ⟨h.1, h.2.1, h.2.2.1, h.2.2.2.1, h.2.2.2.2.1, h.2.2.2.2.2.1, h.2.2.2.2.2.2.1.kept hq, h.2.2.2.2.2.2.2.1.kept hq, h.2.2.2.2.2.2.2.2.1.kept (hq _ (Nat.lt_of_lt_of_le h.2.2.2.2.2.2.2.2.2 hB) (Nat.not_le.mpr h.2.2.2.2.2.2.2.2.2)), h.2.2.2.2.2.2.2.2.2⟩
/-- the locals as a list -/
def zl (B : Nat) (Y : Nat → Nat) : Nat → List (Option Value) → List (Nat × Value)
  | _, [] => []
  | i, none :: L => zl B Y (i + 1) L
  | i, some v :: L => (i, zr B Y v) :: zl B Y (i + 1) L
theorem zl_mem (B : Nat) (Y : Nat → Nat) : ∀ (L : List (Option Value)) (i k : Nat) (v : Value), L[k]? = some (some v) → (i + k, zr B Y v) ∈ zl B Y i L
  | [], i, k, v, h => by simp at h
  | none :: L, i, 0, v, h => by simp at h
  | some w :: L, i, 0, v, h => by
    simp at h
    subst h
    exact List.mem_cons_self
  | none :: L, i, k + 1, v, h => by
    have := zl_mem B Y L (i + 1) k v (by simpa using h)
    rw [show i + (k + 1) = i + 1 + k by omega]
    exact this
  | some w :: L, i, k + 1, v, h => by
    have := zl_mem B Y L (i + 1) k v (by simpa using h)
    rw [show i + (k + 1) = i + 1 + k by omega]
    exact List.mem_cons_of_mem _ this
theorem zl_inv (B : Nat) (Y : Nat → Nat) : ∀ (L : List (Option Value)) (i : Nat) (q : Nat × Value), q ∈ zl B Y i L → ∃ k v, L[k]? = some (some v) ∧ q = (i + k, zr B Y v)
  | [], i, q, h => by simp [zl] at h
  | none :: L, i, q, h => by
    obtain ⟨k, v, h1, h2⟩ := zl_inv B Y L (i + 1) q h
    exact ⟨k + 1, v, by simpa using h1, by rw [h2, show i + (k + 1) = i + 1 + k by omega]⟩
  | some w :: L, i, q, h => by
    rcases List.mem_cons.mp h with rfl | h
    · exact ⟨0, w, rfl, rfl⟩
    · obtain ⟨k, v, h1, h2⟩ := zl_inv B Y L (i + 1) q h
      exact ⟨k + 1, v, by simpa using h1, by rw [h2, show i + (k + 1) = i + 1 + k by omega]⟩
/-- a value of two slots before place i? -/
def zlong (L : List (Option Value)) : Nat → Bool
  | 0 => false
  | i + 1 => match L[i]? with
    | some (some (.long _)) => true
    | some (some (.double _)) => true
    | _ => false
theorem zr_cat (B : Nat) (Y : Nat → Nat) (v : Value) : (zr B Y v).category = v.category := by cases v <;> rfl
theorem zl_set {B : Nat} {Y : Nat → Nat} {ls : Array Slot} {nL i : Nat} {L : List (Option Value)} {v : Value} (hn : zlong L i = false)
    (h : lv_has ls nL ((i, zr B Y v) :: (zl B Y 0 L).filter (fun q => !(q.1 == i) && !(q.1 + 1 == i && q.2.category == 2)))) : lv_has ls nL (zl B Y 0 (L.set i (some v))) := by
  refine ⟨h.1, h.2.1, fun q hq => h.2.2 q ?_⟩
  obtain ⟨k, w, hk, rfl⟩ := zl_inv B Y _ 0 q hq
  rw [Nat.zero_add] at hq ⊢
  by_cases hki : k = i
  · subst hki
    have hl : k < L.length := by
      have := (List.getElem?_eq_some_iff.mp hk).1
      simpa using this
    rw [List.getElem?_set_self hl] at hk
    have hw : v = w := Option.some.inj (Option.some.inj hk)
    subst hw
    exact List.mem_cons_self
  · rw [List.getElem?_set_ne (Ne.symm hki)] at hk
    refine List.mem_cons_of_mem _ (List.mem_filter.mpr ⟨?_, ?_⟩)
    · have := zl_mem B Y L 0 k w hk
      rwa [Nat.zero_add] at this
    · simp only [Bool.and_eq_true, Bool.not_eq_true', beq_eq_false_iff_ne, ne_eq, Bool.and_eq_false_iff]
      refine ⟨hki, ?_⟩
      by_cases h2 : k + 1 = i
      · right
        subst h2
        rw [zr_cat]
        intro hc
        simp only [zlong, hk] at hn
        cases w <;> simp [Value.category] at hc hn
      · exact Or.inl h2
def zri : Option Value → Instr
  | none => .return_
  | some (.int _) => .ireturn
  | some _ => .areturn
def zAt (X : zS) (M : zM) (G : zG) (B : Nat) (p : Program) (s : State) (m : MethodId) (args : Array Value) (meth : Method) (c : Code) : Prop :=
  p.tables.exec = Jvm.exec ∧ c.code = M.2.1 ∧ c.maxLocals = M.2.2.1 ∧ s.vm.findClass M.1.cls = some m.cls ∧ (∀ w ∈ zT, w.before args s = true) ∧ zK G s ∧ zX X G B s s.heap ∧ meth.name = M.1.name ∧ B ≤ s.heap.size
def zFin (M : zM) (G : zG) (B : Nat) (p : Program) (l : Launch) (e : Env) (R : Room) (s : State) (m : MethodId) (args : Array Value) (below : List Frame) (meth : Method) (c : Code) (Q : State → Prop) (r : Option Value) (hp' : List zC) : Prop :=
  ∀ (H : Heap) (locs : List Loc) (cells slots pc : Nat) (ls : Array Slot), zH G B hp' H → va_S (fun q => B ≤ q) s.heap H locs → cells ≤ R.cells → slots ≤ R.slots → decode M.2.1 pc = .ok (zri r, 1) → W p l e R s m args below meth c H locs cells slots Q (F0 m pc ls (r.map (zr B G.2.2)).toList)
/-- from pc, with these locals, this stack and this heap, the method M answers r and leaves hp'; d more frames, kc more cells of ks slots are enough -/
def Z (X : zS) (M : zM) (d kc ks : Nat) (r : Option Value) (hp' : List zC) (pc : Nat) (L : List (Option Value)) (st : List Value) (hp : List zC) : Prop :=
  ∀ (G : zG) (B : Nat) (p : Program) (l : Launch) (e : Env) (R : Room) (s : State) (m : MethodId) (args : Array Value) (below : List Frame) (meth : Method) (c : Code) (Q : State → Prop) (H : Heap) (locs : List Loc) (cells slots : Nat) (ls : Array Slot),
    zAt X M G B p s m args meth c → zFin M G B p l e R s m args below meth c Q r hp' → zH G B hp H → va_S (fun q => B ≤ q) s.heap H locs → d ≤ R.frames → 60 * d ≤ R.locals → cells + kc ≤ R.cells → slots + ks ≤ R.slots → lv_has ls M.2.2.1 (zl B G.2.2 0 L) →
    W p l e R s m args below meth c H locs cells slots Q (F0 m pc ls (st.map (zr B G.2.2)))
/-- what a method called with av over hp answers and leaves -/
def Ret (d mc ms : Nat) (M : zM) (av : List Value) (hp : List zC) (r : Option Value) (hp' : List zC) : Prop :=
  ∀ (X : zS) (l : Launch) (G : zG) (B : Nat), Met l M.1 (Cond.code M.1 M.2.1 M.2.2.1 M.2.2.2 :: zT) { frames := d, cells := mc, slots := ms, locals := 60 * d } (va_Pc (av.map (zr B G.2.2)) (fun U => zH G B hp U.heap ∧ zK G U ∧ zX X G B U U.heap))
    (fun _ st o t => (o = .returned (r.map (zr B G.2.2)) ∧ zH G B hp' t.heap) ∧ va_F (fun q => B ≤ q) st t) mc ms (fun q => B ≤ q)
/-- what a method may answer -/
def zrt : Option FieldType → Option Value → Prop
  | none, none => True
  | some ty, some (.int v) => narrow ty (.int v) = .int v
  | some (.object _), some .null => True
  | some (.object _), some (.ref _) => True
  | _, _ => False
/-- the arguments as locals -/
def zargs : List Value → List (Option Value)
  | [] => []
  | .long v :: l => some (.long v) :: none :: zargs l
  | .double v :: l => some (.double v) :: none :: zargs l
  | v :: l => some v :: zargs l
theorem zargs_mem (B : Nat) (Y : Nat → Nat) : ∀ (av : List Value) (i : Nat) (q : Nat × Value), q ∈ zl B Y i (zargs av) → q ∈ lv_args i (av.map (zr B Y))
  | [], i, q, h => by simp [zl, zargs] at h
  | v :: l, i, q, h => by
    have ih1 := zargs_mem B Y l (i + 1) q
    have ih2 := zargs_mem B Y l (i + 2) q
    cases v <;> simp only [zargs, zl, List.map_cons, lv_args, zr, Value.category, List.mem_cons] at h ⊢ <;>
      first
      | (rcases h with h | h
         · exact Or.inl h
         · exact Or.inr (by simpa using ih1 h))
      | (rcases h with h | h
         · exact Or.inl h
         · exact Or.inr (by simpa using ih2 h))
theorem zl_pad (B : Nat) (Y : Nat → Nat) : ∀ (L : List (Option Value)) (i n : Nat), zl B Y i (L ++ List.replicate n none) = zl B Y i L
  | [], i, 0 => rfl
  | [], i, n + 1 => by
    have := zl_pad B Y [] (i + 1) n
    simpa [zl, List.replicate_succ] using this
  | none :: L, i, n => by simp only [List.cons_append, zl]; exact zl_pad B Y L (i + 1) n
  | some v :: L, i, n => by simp only [List.cons_append, zl, zl_pad B Y L (i + 1) n]
theorem lg_sl_z (B : Nat) (Y : Nat → Nat) : ∀ av : List Value, (lg_sl (av.map (zr B Y))).length = (zargs av).length
  | [] => rfl
  | v :: l => by
    have ih := lg_sl_z B Y l
    cases v <;> simp [lg_sl, zargs, zr, Value.category] at ih ⊢ <;> omega
theorem Ret.of {d mc ms : Nat} {M : zM} {av : List Value} {hp hp' : List zC} {r : Option Value} (hy : plainName M.1.cls = true) (hr : zrt M.2.2.2 r) {n : Nat} (hn : (zargs av).length + n = M.2.2.1)
    (h : ∀ X : zS, Z X M d mc ms r hp' 0 (zargs av ++ List.replicate n none) [] hp) : Ret d mc ms M av hp r hp' := by
  intro X l G B
  refine Met.ofW (cc := M.2.1) (maxL := M.2.2.1) (ret := M.2.2.2) hy rfl ?_
  intro p e s m args below meth c s₁ Bd hml hv
  obtain ⟨rfl, hH, hK, hX⟩ := hv
  have hx := Bd.exec
  have hb := Bd.bytes
  have hret := Bd.returns
  have hts := atoms_spec (ws := Cond.code M.1 M.2.1 M.2.2.1 M.2.2.2 :: zT) Bd.pre
  have hown : s.vm.findClass M.1.cls = some m.cls := findClass_of_methodNamed Bd.named
  have hlocks := Bd.notSynchronized
  have hnm : meth.name = M.1.name := (name_of_methodNamed Bd.named Bd.method).1
  have hl := lv_entry (av.map (zr B G.2.2)) (n := M.2.2.1) (by rw [lg_sl_z]; omega)
  rw [lg_entry_eq]
  generalize (lg_sl (av.map (zr B G.2.2)) ++ List.replicate (M.2.2.1 - (lg_sl (av.map (zr B G.2.2))).length) Slot.unset).toArray = ls at hl ⊢
  have hl2 : lv_has ls M.2.2.1 (zl B G.2.2 0 (zargs av ++ List.replicate n none)) := ⟨hl.1, hl.2.1, fun q hq => hl.2.2 q (zargs_mem B G.2.2 av 0 q (by rwa [zl_pad] at hq))⟩
  refine h X G B p l e _ s m _ below meth c _ s.heap [] 0 0 ls ⟨hx, hb, hml, hown, fun w hw => hts w (List.mem_cons_of_mem _ hw), hK, hX, hnm, by rw [hH.2]; exact Nat.le_add_right _ _⟩ ?_ hH va_S.rf (Nat.le_refl _) (Nat.le_refl _) (by show 0 + mc ≤ mc; omega) (by show 0 + ms ≤ ms; omega) hl2
  intro H locs cells slots pc ls' hH' hS hc hs hdg
  refine W.widen (k := mc) (n := ms) hc hs ?_
  generalize hM : M.2.2.2 = rt at hr hret
  match rt, r, hr, hdg with
  | none, none, _, hdg => exact W.vret hx hb hret (fun t ht hW => ⟨⟨rfl, by rw [ht]; exact hH'⟩, hS.F ht⟩) hS.2.2 hdg
  | some ty, some (.int v), hr, hdg => exact W.zret (v := v) hx hb hret hr (fun t ht hW => ⟨⟨rfl, by rw [ht]; exact hH'⟩, hS.F ht⟩) hS.2.2 hdg
  | some (.object n), some .null, _, hdg => exact W.aret hx hb hret (Or.inl ⟨n, rfl⟩) (Or.inl rfl) (fun t ht hW => ⟨⟨rfl, by rw [ht]; exact hH'⟩, hS.F ht⟩) hS.2.2 hdg
  | some (.object n), some (.ref k), _, hdg => exact W.aret hx hb hret (Or.inl ⟨n, rfl⟩) (Or.inr ⟨_, rfl⟩) (fun t ht hW => ⟨⟨rfl, by rw [ht]; exact hH'⟩, hS.F ht⟩) hS.2.2 hdg
/-- behind a call -/
theorem z_run {X : zS} {M : zM} {G : zG} {B : Nat} {p : Program} {l : Launch} {e : Env} {R : Room} {s : State} {m : MethodId} {args : Array Value} {below : List Frame} {meth : Method} {c : Code} {Q : State → Prop} {H : Heap} {locs : List Loc} {cells slots mc ms pc : Nat} {ls : Array Slot} {st0 rest : List Value} {r : Option Value} {hp1 : List zC} {av : Array Value}
    (hS : va_S (fun q => B ≤ q) s.heap H locs)
    (hr : va_Run p l e R s m args below meth c H locs cells slots mc ms (F0 m pc ls st0) rest ((fun (_ : Array Value) (st : State) (o : Outcome) (t : State) => (o = .returned r ∧ zH G B hp1 t.heap) ∧ va_F (fun q => B ≤ q) st t) av) (fun q => B ≤ q))
    (kk : ∀ (H1 : Heap) (locs1 : List Loc), zH G B hp1 H1 → va_S (fun q => B ≤ q) s.heap H1 locs1 → W p l e R s m args below meth c H1 locs1 (cells + mc) (slots + ms) Q (F0 m (pc + 3) ls (r.toList ++ rest))) : W p l e R s m args below meth c H locs cells slots Q (F0 m pc ls st0) := by
  intro T hT X'
  obtain ⟨v, st₀, t, T', L, h0, X', hL, e1, e2, ⟨⟨hv, hz1⟩, hz, hk⟩, st⟩ := hr T hT X'
  cases hv
  rw [h0] at hz hk
  obtain ⟨t2, a1, b1⟩ := kk T'.heap (locs ++ L) (by rw [e1]; exact hz1)
    ⟨Nat.le_trans hS.1 (by rw [e1]; exact hz), fun q h1 h2 => by rw [e1, hk q (Nat.lt_of_lt_of_le h1 hS.1) h2]; exact hS.2.1 q h1 h2, fun q hq => by
      rcases List.mem_append.mp hq with h | h
      · exact hS.2.2 q h
      · exact hL q h⟩ T' rfl X'
  exact ⟨t2, st t2 a1, b1⟩
theorem zX.at {X : zS} {M : zM} {G : zG} {B : Nat} {p : Program} {s : State} {m : MethodId} {args : Array Value} {meth : Method} {c : Code} {H : Heap} {locs : List Loc} (A : zAt X M G B p s m args meth c) (hS : va_S (fun q => B ≤ q) s.heap H locs) : zX X G B s H :=
  zX.kept (fun a h1 h2 => hS.2.1 a h1 h2) A.2.2.2.2.2.2.2.2 A.2.2.2.2.2.2.1
theorem z_blind {X : zS} {G : zG} {B : Nat} {hp : List zC} (av : List Value) : FrameBlind (va_Pc av (fun U => zH G B hp U.heap ∧ zK G U ∧ zX X G B U U.heap)) :=
  fun a U g mk h => ⟨h.1, h.2.1, va_K.moved (u := U) (U := U.calling g mk a) (Vm.Alike.refl U.vm) h.2.2.1, zX.moved (U := U.calling g mk a) (State.WarmedH.refl U) h.2.2.2⟩
theorem z_preS {X : zS} {M : zM} {G : zG} {B : Nat} {p : Program} {s : State} {m : MethodId} {args : Array Value} {meth : Method} {c : Code} {H : Heap} {locs : List Loc} {hp : List zC} (A : zAt X M G B p s m args meth c) (hS : va_S (fun q => B ≤ q) s.heap H locs) (h : zH G B hp H) (av : List Value) :
    PreS s H (va_Pc av (fun U => zH G B hp U.heap ∧ zK G U ∧ zX X G B U U.heap)) av :=
  ⟨z_blind av, fun U hU hW => ⟨rfl, by rw [hU]; exact h, va_K.moved hW.alike A.2.2.2.2.2.1, by rw [hU]; exact (zX.at A hS).moved hW⟩⟩
