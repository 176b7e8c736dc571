/-! THE CLAIM OUT OF ONE WALK OF THE LAW'S BODY. Your part is whole_start (and what it stands on); all else here is the same for every law, but numbers. -/
def R_law : String := "LightInRoomLaw"
def lw_P (b : Addr) (xs : List Int32) (args : Array Value) (s : State) : Prop := args = #[.ref b] ∧ s.IntsAt b xs ∧ xs.length ≤ 320 ∧ (Jvm.Cond.and given_1 narrow_1).before args s = true
def lw_Q (_ : Array Value) (s : State) (o : Outcome) (t : State) : Prop := o = .returned (some (.int 1)) ∧ Framed s o t [] 600000 7302250
def lw_Z (below : List Frame) (a : Array Value) (s : State) : State → Prop := fun t => ∃ o, t.status = .running ∧ Ended t below o ∧ lw_Q a s o t
/-- the law's own end, with 1 on the stack, nothing written that was there before, its room as the claim has it -/
theorem lw_ret {p : Program} {l : Launch} {e : Env} {s : State} {m : MethodId} {below : List Frame} {meth : Method} {c : Code} {b : Nat} (hx : p.tables.exec = Jvm.exec) (hb : c.code = code) (hr : meth.sig.returnType = ret) (hlocks : meth.locks = false) {pc : Nat} {H : Heap} {ls : Array Slot} (hdg : decode code pc = .ok (.ireturn, 1)) : W p l e room_1 s m #[Value.ref b] below meth c H [] 600000 7302250 (lw_Z below #[Value.ref b] s) (F0 m pc ls [.int 1]) := by
  intro T hT X
  obtain ⟨fs, hret, hrun, hended, hW, hframe⟩ := X.leave (v := some (.int 1)) (hlocks := hlocks) (fun h => by rw [hr] at h; cases h)
  have hmeth' : T.vm.method? m = some meth := X.method'
  refine ⟨T.setFrames fs, ?_, .returned (some (.int 1)), hrun, hended, rfl, ⟨_, rfl⟩, hW, hframe⟩
  jvm_step X.here [X.here.top, hx, hb, hdg, hmeth', hr, ret, narrow_b1]
  (try refine ⟨rfl, ?_⟩); (try refine ⟨rfl, ?_⟩)
  first | (intro acts; rw [hret _ acts rfl rfl rfl]) | rw [hret _ _ rfl rfl rfl]
  exact Steps.refl _
/-- what holds at the law's entry: the machine, the code, the tables' words (any of lw_tbl by 'hts w (by decide +kernel)'), the script of L ints xs at the cell b, what the Statement gives of the start (any of its parts by flat_of_before) -/
def lw_At (p : Program) (s : State) (m : MethodId) (meth : Method) (c : Code) (b L : Nat) (xs : Nat → Int32) : Prop :=
  p.tables.exec = Jvm.exec ∧ c.code = code ∧ meth.sig.returnType = ret ∧ c.maxLocals = 4 ∧ s.vm.findClass R_law = some m.cls ∧ (∀ w ∈ lw_tbl, w.before #[Value.ref b] s = true) ∧ va_X b L xs s s.heap ∧ b < s.heap.size ∧ meth.locks = false ∧ (Jvm.Cond.and given_1 narrow_1).before #[Value.ref b] s = true ∧ meth.name = x.name
/-- what the tables and the old heap give at the start -/
theorem lw_nest : ∀ q ∈ zNest, Cond.methodLinkNest q.1 q.2.1 q.2.2 "LightInRoom" ∈ lw_tbl := by decide +kernel
theorem lw_cast : ∀ q ∈ zCast, Cond.castable q "LightInRoom$Telling" ∈ lw_tbl := by decide +kernel
theorem lw_decl : ∀ q ∈ zDecl, Cond.declares q ∈ lw_tbl := by decide +kernel
theorem lw_strs : Cond.stringRef "LightInRoom$Tape" 101 "bhuwnmop" ∈ lw_tbl := by decide +kernel
theorem lw_aI : Cond.arrayClass .int ∈ lw_tbl := by decide +kernel
theorem lw_aL : Cond.arrayOver (.object "LightInRoom$Law") ∈ lw_tbl := by decide +kernel
theorem lw_aT : Cond.arrayOver (.object "LightInRoom$Telling") ∈ lw_tbl := by decide +kernel
theorem lw_l1 : Cond.laysStatic "java/lang/String" "COMPACT_STRINGS" "Z" ∈ lw_tbl := by decide +kernel
theorem lw_l2 : Cond.laysStatic "jdk/internal/util/Preconditions" "SIOOBE_FORMATTER" "Ljava/util/function/BiFunction;" ∈ lw_tbl := by decide +kernel
theorem lw_i1 : Cond.initialized "java/lang/String" ∈ lw_tbl := by decide +kernel
theorem lw_i2 : Cond.initialized "jdk/internal/util/Preconditions" ∈ lw_tbl := by decide +kernel
theorem lw_known {b : Nat} {s : State} (htz : ∀ w ∈ zT, w.before #[Value.ref b] s = true) : ∀ k : Nat, ∃ p : ClassId × (Nat → Nat), ∀ q, zCl[k]? = some q → u_Kn s q.1 q.2.1 q.2.2 p.1 p.2 := fun k => match k with
    | 0 => by
      obtain ⟨c, iS, h⟩ := u_known (ws := zT) htz zc_Ben (htz _ it_Ben)
      exact ⟨(c, iS), fun q hq => by cases hq; exact h⟩
    | 1 => by
      obtain ⟨c, iS, h⟩ := u_known (ws := zT) htz zc_Cal (htz _ it_Cal)
      exact ⟨(c, iS), fun q hq => by cases hq; exact h⟩
    | 2 => by
      obtain ⟨c, iS, h⟩ := u_known (ws := zT) htz zc_Eye (htz _ it_Eye)
      exact ⟨(c, iS), fun q hq => by cases hq; exact h⟩
    | 3 => by
      obtain ⟨c, iS, h⟩ := u_known (ws := zT) htz zc_Gro (htz _ it_Gro)
      exact ⟨(c, iS), fun q hq => by cases hq; exact h⟩
    | 4 => by
      obtain ⟨c, iS, h⟩ := u_known (ws := zT) htz zc_Law (htz _ it_Law)
      exact ⟨(c, iS), fun q hq => by cases hq; exact h⟩
    | 5 => by
      obtain ⟨c, iS, h⟩ := u_known (ws := zT) htz zc_Nea (htz _ it_Nea)
      exact ⟨(c, iS), fun q hq => by cases hq; exact h⟩
    | 6 => by
      obtain ⟨c, iS, h⟩ := u_known (ws := zT) htz zc_Roo (htz _ it_Roo)
      exact ⟨(c, iS), fun q hq => by cases hq; exact h⟩
    | 7 => by
      obtain ⟨c, iS, h⟩ := u_known (ws := zT) htz zc_Tap (htz _ it_Tap)
      exact ⟨(c, iS), fun q hq => by cases hq; exact h⟩
    | 8 => by
      obtain ⟨c, iS, h⟩ := u_known (ws := zT) htz zc_Thr (htz _ it_Thr)
      exact ⟨(c, iS), fun q hq => by cases hq; exact h⟩
    | 9 => by
      obtain ⟨c, iS, h⟩ := u_known (ws := zT) htz zc_Wit (htz _ it_Wit)
      exact ⟨(c, iS), fun q hq => by cases hq; exact h⟩
    | 10 => by
      obtain ⟨c, iS, h⟩ := u_known (ws := zT) htz zc_Lir (htz _ it_Lir)
      exact ⟨(c, iS), fun q hq => by cases hq; exact h⟩
    | 11 => by
      obtain ⟨c, iS, h⟩ := u_known (ws := zT) htz zc_Mod (htz _ it_Mod)
      exact ⟨(c, iS), fun q hq => by cases hq; exact h⟩
    | k + 12 => ⟨(default, fun _ => 0), fun q hq => by simp [zCl] at hq⟩
theorem lw_str {b : Nat} {s : State} (hgv : (Jvm.Cond.and given_1 narrow_1).before #[Value.ref b] s = true) : ∃ a1 a2 : Nat, (Term.string "LightInRoom$Tape" 101).eval #[Value.ref b] s none [] s = some (.ref a1) ∧ vk_S 1 [8] [zStr] (fun _ => a1) (fun _ => a2) (fun q => s.heap.size ≤ q) s s.heap := by
  have hs := flat_of_before _ hgv
  obtain ⟨adK, adV, h1, h2⟩ := vk_Sof (args := #[Value.ref b]) (s := s) (N := 1) (tm := fun _ => .string "LightInRoom$Tape" 101) (len := [8]) (byt := [zStr]) (A := fun q => s.heap.size ≤ q)
    (fun i hi => by rcases (show i = 0 by omega) with rfl; decide) (fun i hi => hs _ (by decide +kernel)) (fun i hi => hs _ (by decide +kernel)) (fun i hi => hs _ (by decide +kernel))
    (fun i hi => by rcases (show i = 0 by omega) with rfl; exact hs _ (by decide +kernel))
    (fun i hi j hj => by
      rcases (show i = 0 by omega) with rfl
      rcases (show j = 0 ∨ j = 1 ∨ j = 2 ∨ j = 3 ∨ j = 4 ∨ j = 5 ∨ j = 6 ∨ j = 7 by simp at hj; omega) with rfl | rfl | rfl | rfl | rfl | rfl | rfl | rfl <;> exact hs _ (by decide +kernel))
    (fun i j hi hj hij => absurd (by omega) hij) (fun a ha => Nat.not_le.mpr ha)
  refine ⟨adK 0, adV 0, h2 0 (by decide), fun i hi => ?_, fun i j hi hj _ => by omega⟩
  rcases (show i = 0 by omega) with rfl
  exact h1.1 0 (by decide)
theorem lw_stat {b : Nat} {s : State} (hts : ∀ w ∈ lw_tbl, w.before #[Value.ref b] s = true) (hgv : (Jvm.Cond.and given_1 narrow_1).before #[Value.ref b] s = true) : ∃ t : Nat, zSt t (fun q => s.heap.size ≤ q) s s.heap := by
  have hs := flat_of_before _ hgv
  have h1 : va_Z "java/lang/String" "COMPACT_STRINGS" "Z" (.int 1) (fun q => s.heap.size ≤ q) s s.heap := va_Zof (hts _ lw_l1) (hts _ lw_i1) (va_eqi (hs _ (by decide +kernel))) (fun a ha => Nat.not_le.mpr ha)
  have h2 : va_Zq "jdk/internal/util/Preconditions" "SIOOBE_FORMATTER" "Ljava/util/function/BiFunction;" (fun q => s.heap.size ≤ q) s s.heap := va_Zqof (hts _ lw_l2) (hts _ lw_i2) (hs _ (by decide +kernel)) (fun a ha => Nat.not_le.mpr ha)
  rcases h2 with h2 | ⟨t, h2⟩
  · exact ⟨0, h1, Or.inl h2⟩
  · exact ⟨t, h1, Or.inr h2⟩
set_option maxHeartbeats 1000000 in
/-- from the entry, for every script of at most 320 ints, the law comes to its end with true -/
theorem whole_start {p : Program} {e : Env} {s : State} {m : MethodId} {below : List Frame} {meth : Method} {c : Code} (l : Launch) {b L : Nat} {xs : Nat → Int32} (hL : L ≤ 320) (C0 : lw_At p s m meth c b L xs) : W p l e room_1 s m #[Value.ref b] below meth c s.heap [] 0 0 (lw_Z below #[Value.ref b] s) (entryFrame m ([Value.ref b] : List Value).toArray 4) := by
  obtain ⟨hx, hb, hr, hml, hown, hts, hX, hbl, hlocks, hgv, hnm⟩ := id C0
  have htz : ∀ w ∈ zT, w.before #[Value.ref b] s = true := fun w hw => hts w (zT_sub w hw)
  obtain ⟨f, hf⟩ := Classical.axiomOfChoice (lw_known htz)
  obtain ⟨cI, kI, pI, i1, i2, i3⟩ := Cond.arrayClass_spec (hts _ lw_aI)
  obtain ⟨pL, cL, kL, l1, -, l3, l4, l5⟩ := Cond.arrayOver_spec (hts _ lw_aL)
  obtain ⟨pT, cT, kT, t1, -, t3, t4, t5⟩ := Cond.arrayOver_spec (hts _ lw_aT)
  obtain ⟨a1, a2, hs1, hs2⟩ := lw_str hgv
  obtain ⟨t, hst⟩ := lw_stat hts hgv
  let G : zG := ((fun k => (f k).1, fun k => (f k).2), (fun k => if k = 0 then cI else if k = 1 then cL else cT), (fun k => if k = 0 then b else if k = 1 then a1 else if k = 2 then a2 else t))
  have hK : zK G s := by
    refine ⟨fun k q hq => hf k q hq, fun k q hq => ?_⟩
    match k, hq with
    | 0, hq => cases hq; exact ⟨fun N z => ⟨(fun k h => by cases h), kI, i2, pI, i3⟩, i1⟩
    | 1, hq => cases hq; exact ⟨fun N z => ⟨(fun k h => by cases h), kL, l3, pL, l4⟩, kL, pL, l3, l4, l1, l5⟩
    | 2, hq => cases hq; exact ⟨fun N z => ⟨(fun k h => by cases h), kT, t3, pT, t4⟩, kT, pT, t3, t4, t1, t5⟩
    | k + 3, hq => simp at hq
  have hZX : zX (L, xs) G s.heap.size s s.heap :=
    ⟨fun q hq => va_tabs rfl rfl (hts _ (lw_nest q hq)), fun q hq => va_tabs rfl rfl (hts _ (lw_cast q hq)), fun q hq => va_tabs rfl rfl (hts _ (lw_decl q hq)), va_AO.of (hts _ lw_aL), va_AO.of (hts _ lw_aT), vk_R.of (hts _ lw_strs) hs1, hs2, hst, hX, hbl⟩
  obtain ⟨hp', hz⟩ := lw_all (X := (L, xs)) hL
  have hl := lv_entry ([.ref b]) (n := 4) (Nat.le_of_ble_eq_true rfl)
  rw [lg_entry_eq]
  generalize (lg_sl ([.ref b]) ++ List.replicate (4 - (lg_sl ([.ref b])).length) Slot.unset).toArray = ls at hl ⊢
  have hl : lv_has ls 4 [(0, .ref b)] := hl
  refine hz G s.heap.size p l e room_1 s m #[Value.ref b] below meth c (lw_Z below #[Value.ref b] s) s.heap [] 0 0 ls ⟨hx, hb, hml, hown, htz, hK, hZX, hnm, Nat.le_refl _⟩ ?_ ⟨fun k q h => by simp [zw] at h, rfl⟩ va_S.rf (Nat.le_of_ble_eq_true rfl) (Nat.le_of_ble_eq_true rfl) (Nat.le_of_ble_eq_true rfl) (Nat.le_of_ble_eq_true rfl) hl
  intro H locs cells slots pc ls' _ hS hc hs hdg
  refine va_forget (fun q hq => hS.2.2 q hq) ?_
  refine W.widen (k := 600000) (n := 7302250) hc hs ?_
  exact lw_ret hx hb hr hlocks hdg
-- ===== YOUR PART ENDS =====
set_option maxHeartbeats 4000000 in
theorem lw_walk (l : Launch) (b : Addr) (xs : List Int32) : MetFree l x (headSpec (Jvm.Cond.code x code maxLocals ret :: tables_1) room_1) (lw_P b xs) (fun _ _ _ _ _ => True) lw_Q := by
  refine MetFree.of_bodyS (code := code) (maxLocals := maxLocals) (ret := ret) (by decide) ?_ ?_
  · intro args s m h hn
    obtain ⟨meth, c, h1, h2, h3, h4, h5, h6, -, -⟩ := Cond.code_spec hn (atoms_spec (ws := Jvm.Cond.code x code maxLocals ret :: tables_1) h _ List.mem_cons_self)
    exact ⟨meth, c, h1, h2, h3, h4, h5, h6⟩
  · intro p e s m args below meth c s₁ B hml0 hP _
    obtain ⟨rfl, hx, hbd, hgv⟩ := hP
    obtain ⟨scr, harrAt, hlist, hof, hsmall⟩ := hx
    obtain ⟨hcb, hkn, -, -⟩ := State.arrayAt?_spec harrAt
    have hown : s.vm.findClass R_law = some m.cls := findClass_of_methodNamed B.named
    have hts0 : ∀ c ∈ (Jvm.Cond.code x code maxLocals ret :: tables_1), c.before #[Value.ref b] s = true := atoms_spec (ws := Jvm.Cond.code x code maxLocals ret :: tables_1) B.pre
    have hts : ∀ w ∈ lw_tbl, w.before #[Value.ref b] s = true := k2_hts_sels lw_privs (fun w hw => hts0 w (List.mem_cons_of_mem _ hw)) lw_privs_ok
    have hml : c.maxLocals = 4 := B.maxLocals_eq (hts0 _ List.mem_cons_self)
    have X₀ : Stand p l e room_1 s m #[Value.ref b] below meth c s₁ [] 0 0 := Stand.of_body B
    have hh0 : s₁.heap = s.heap := by rw [B.state]; rfl
    have hsz : scr.slots.size = xs.length := by rw [← Array.length_toList, hlist, List.length_map]
    have hval : ∀ j : Nat, j < xs.length → scr.slots[j]? = some (.int (xs.getD j 0)) := fun j hj => by
      rw [← Array.getElem?_toList, hlist]
      simp [hj]
    have hbl : b < s.heap.size := (Array.getElem?_eq_some_iff.mp hcb).1
    have hX : va_X b xs.length (fun j => xs.getD j 0) s s.heap := ⟨scr, hcb, hof, hkn, hsz, hval⟩
    have K : W p l e room_1 s m #[Value.ref b] below meth c s₁.heap [] 0 0 (lw_Z below #[Value.ref b] s) (entryFrame m ([Value.ref b] : List Value).toArray 4) := by
      rw [hh0]
      exact whole_start l hbd ⟨B.exec, B.bytes, B.returns, hml, hown, hts, hX, hbl, B.notSynchronized, hgv, (name_of_methodNamed B.named B.method).1⟩
    obtain ⟨t, a1, o, b1, b2, b3⟩ := K s₁ rfl X₀
    exact ⟨t, o, a1, b1, b2, b3⟩
theorem lw_pre_spec {args : Array Value} {s : State} (h : (Jvm.Cond.and given_1 narrow_1).before args s = true) (hr : rest_1_c.before args s = true) : ∃ (b : Addr) (xs : List Int32), lw_P b xs args s := by
  have hs := flat_of_before _ h
  have hq := flat_of_before _ hr
  have hc : (Cond.count 1).before args s = true := hs _ (by decide +kernel)
  have harr : (Cond.arrayOf (.arg 0) .int).before args s = true := hs _ (by decide +kernel)
  have hle : (Cond.le (.length (.arg 0)) (.int 320)).before args s = true := hs _ (by decide +kernel)
  have hlen : (Cond.isInt (.length (.arg 0))).before args s = true := hq _ (by decide +kernel)
  have hall : (Cond.all (.arg 0) (.isInt (.elem (.arg 0) (.index 0)))).before args s = true := hq _ (by decide +kernel)
  obtain ⟨b, xs, hb, hx⟩ := State.ints_of_pre rfl harr hlen hall
  have hsm : xs.length < 2 ^ 31 := hx.choose_spec.2.2.2
  have hev : (Term.length (.arg 0)).eval args s none [] s = some (.int xs.length.toInt32) := hx.length_eval hb
  have hv := Cond.le_ints hev (show (Term.int 320).eval args s none [] s = some (.int 320) from rfl)
  have hd : xs.length.toInt32 ≤ 320 := by
    simpa [Cond.before, Cond.holds, hv] using hle
  have hN : xs.length ≤ 320 := (Int32.ofNat_le_ofNat hsm (by decide)).mp (show Int32.ofNat xs.length ≤ Int32.ofNat 320 from hd)
  exact ⟨b, xs, Cond.one_arg hc (show args[0]? = some (.ref b) from hb), hx, hN, h⟩
theorem lw_comes (l : Launch) : Comes l x (Jvm.Cond.code x code maxLocals ret :: tables_1) room_1 (fun tb e args s => Calls_1 tb e args s ∧ rest_1 tb e args s ∧ Pre_1 tb e args s)
    (fun _ _ args s o t => lw_Q args s o t) := by
  intro p e ha hc hk s m args below hf hfit hheap happ hpre
  obtain ⟨b, xs, hP⟩ := lw_pre_spec hpre.2.2 hpre.2.1
  obtain ⟨k, o, h1, h2, h3, hQ⟩ := lw_walk l b xs p e ha hc hk s m args below hf ((Spec.applies_iff_loose hf).mp happ).1 hP trivial
  exact ⟨k, o, h1, h2, h3, hQ⟩
theorem lw_frame {s t : State} {o : Outcome} {args : Array Value} (h : Framed s o t [] 600000 7302250) :
    Framed s o t (fieldLocs frame_1_writes args s ++ arrayLocs frame_1_arrays args s ++ staticLocs frame_1_statics s) 600000 7302250 := h
theorem lw_limb (L : Cond) (hL : ∀ (args : Array Value) (s t : State), L.after args s (.returned (some (.int 1))) t = true) :
    ArmFor flags0 classFile x code maxLocals ret World_1 tables_1 room_1 Calls_1 rest_1 Pre_1
      (fun tb e a s o t => postC L tb e a s o t ∧ Framed s o t (fieldLocs frame_1_writes a s ++ arrayLocs frame_1_arrays a s ++ staticLocs frame_1_statics s) 600000 7302250) := by
  intro l _ _ _ p e ha hc hk s m args below hf hfit hheap happ hpre
  obtain ⟨k, o, h1, h2, h3, rfl, hF⟩ := lw_comes l p e ha hc hk s m args below hf hfit hheap happ hpre
  exact ⟨k, _, h1, h2, h3, hL args s _, lw_frame hF⟩
theorem i_vc : Claimed_1_1 ∧ Claimed_1_2 := ⟨lw_limb limb_1_1 (fun args s t => by simp [limb_1_1, Cond.after, Cond.holds, Cond.value]), lw_limb limb_1_2 (fun args s t => Cond.after_iff.mpr (by
  first | (rw [show limb_1_2 = Cond.eq .result (.int 1) from rfl, Cond.eq_ints (x := 1) (y := 1) rfl rfl]; simp; done) | (simp [limb_1_2, Cond.value, Term.eval]; done)))⟩
