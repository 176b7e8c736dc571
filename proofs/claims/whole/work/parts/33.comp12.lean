theorem zs_1 : Cond.static arraycopyName ∈ zT := zT_in 827 (by decide +kernel) (by decide +kernel)
theorem zs_2 : Cond.native arraycopyName ∈ zT := zT_in 828 (by decide +kernel) (by decide +kernel)
theorem zs_3 : Cond.initialized "java/lang/System" ∈ zT := zT_in 61 (by decide +kernel) (by decide +kernel)
theorem z_copy {X : zS} {M : zM} {d kc ks : Nat} {r : Option Value} {hp' : List zC} {pc : Nat} {L : List (Option Value)} {st : List Value} {hp : List zC} {ix o1 o2 N : Nat} {f g : Nat → Int32} (hdg : decode M.2.1 pc = .ok (.invokestatic ix, 3)) (n : Nat) (en : pc + 3 = n) (hlk : Cond.methodLink M.1.cls ix arraycopyName ∈ zT) (ho1 : hp[o1]? = some (.inl (N, f))) (ho2 : hp[o2]? = some (.inl (N, g))) (hN : N < 1000) (hd : 1 ≤ d) (hst : (st.map fun v => v.category).sum ≤ 8) (kk : Z X M d kc ks r hp' n L st (hp.set o2 (.inl (N, cp f g N)))) : Z X M d kc ks r hp' pc L (.int (nI N) :: .int 0 :: .ref o2 :: .int 0 :: .ref o1 :: st) hp := by
  subst en
  intro G B p l e R s m args below meth c Q H locs cells slots ls A F h hS h1 h2 h3 h4 hl
  have hts := A.2.2.2.2.1
  have hcat := z_cats (B := B) (Y := G.2.2) hst
  have hK : zK G s := A.2.2.2.2.2.1
  have e0 : (nI N).toNatClampNeg = N := nI_clamp (by omega)
  have ez : (0 : Int32).toNatClampNeg = 0 := rfl
  have hc0 : H[B + o1]? = some (vp_cell (G.2.1 0) (N, .inl f)) := h.1 o1 _ (zw_at ho1)
  have hc1 : H[B + o2]? = some (vp_cell (G.2.1 0) (N, .inl g)) := h.1 o2 _ (zw_at ho2)
  obtain ⟨-, k0, hk0, cm0, hkk0⟩ := (hK.2 0 _ rfl).1 N (fun j => .int (f j))
  obtain ⟨-, k1, hk1, cm1, hkk1⟩ := (hK.2 0 _ rfl).1 N (fun j => .int (g j))
  have hnf : nativeFrameWords "java/lang/System" "arraycopy" 5 + 11 ≤ 52 := by decide
  intro T hT X0
  obtain ⟨vm', X', step⟩ := X0.arraycopy A.1 A.2.2.2.1 (hts _ hlk) (hts _ zs_2) (hts _ zs_1) (hts _ zs_3) (src := B + o1) (dst := B + o2) (cs := vp_cell (G.2.1 0) (N, .inl f)) (cd := vp_cell (G.2.1 0) (N, .inl g)) (srcPos := 0) (destPos := 0) (n := nI N) (by rw [hT]; exact hc0) (by rw [hT]; exact hc1)
    (fun _ h => by cases h) (fun _ h => by cases h) (fun h => by cases h) (fun h => by cases h) hk0 hk1 hkk0 hkk1 (by simp [refKind]) (by decide) (by decide) (nI_pos (by omega))
    (by rw [nI_toInt (by omega)]; show ¬ (0 : Int) + N > ((arrV (G.2.1 0) N (fun j => .int (f j))).slots.size : Int); rw [arrV_size]; omega)
    (by rw [nI_toInt (by omega)]; show ¬ (0 : Int) + N > ((arrV (G.2.1 0) N (fun j => .int (g j))).slots.size : Int); rw [arrV_size]; omega)
    (fun vm₁ _ i hi => by
      rw [e0] at hi
      have e : (vp_cell (G.2.1 0) (N, .inl f)).slots.getD ((0 : Int32).toNatClampNeg + i) .null = .int (f ((0 : Int32).toNatClampNeg + i)) := by
        show (arrV (G.2.1 0) N (fun j => .int (f j))).slots.getD _ _ = _
        rw [Array.getD_eq_getD_getElem?, arrV_read _ _ (by rw [ez]; omega)]
        rfl
      refine ⟨?_, ?_⟩
      · rw [e]; rfl
      · rw [e]; exact trivial)
    (g := F0 m pc ls ((Value.int (nI N) :: .int 0 :: .ref o2 :: .int 0 :: .ref o1 :: st).map (zr B G.2.2))) rfl (by rw [A.2.2.1]; exact hl.1) (rest := st.map (zr B G.2.2)) rfl (by rw [A.2.1]; exact hdg) (by omega) (by show 2 * 0 + _ + _ ≤ _; omega)
  have e1 : copied (vp_cell (G.2.1 0) (N, .inl f)) (vp_cell (G.2.1 0) (N, .inl g)) 0 0 (nI N) = vp_cell (G.2.1 0) (N, .inl (cp f g N)) := by
    have h0 := va_copied (fun z => Value.int z) (G.2.1 0) (G.2.1 0) (n0 := N) (n1 := N) (sp := 0) (dp := 0) (n := N) f g (by omega)
    have h2 : va_cpy f g 0 0 N = cp f g N := by
      funext k
      simp [va_cpy, cp]
    rw [h2] at h0
    show Cell.storeRun _ ((0 : Int32).toNatClampNeg) (Cell.stretch _ ((0 : Int32).toNatClampNeg) (nI N).toNatClampNeg) = _
    rw [e0]
    exact h0
  rw [e1] at X' step
  have hlt : B + o2 < H.size := (Array.getElem?_eq_some_iff.mp hc1).1
  have hheap : ((T.setVm vm').setCell (B + o2) (vp_cell (G.2.1 0) (N, .inl (cp f g N)))).heap = H.setIfInBounds (B + o2) (vp_cell (G.2.1 0) (N, .inl (cp f g N))) := by rw [← hT]; rfl
  have oq : ∀ q : Nat, q ≠ B + o2 → (H.setIfInBounds (B + o2) (vp_cell (G.2.1 0) (N, .inl (cp f g N))))[q]? = H[q]? := fun q hq => by simp [Array.getElem?_setIfInBounds, Ne.symm hq]
  have hz : (H.setIfInBounds (B + o2) (vp_cell (G.2.1 0) (N, .inl (cp f g N)))).size = H.size := by simp
  obtain ⟨t, a1, b1⟩ := kk G B p l e R s m args below meth c Q _ _ cells slots ls A F (h.put ho2 (show (H.setIfInBounds (B + o2) _)[B + o2]? = some _ by simp [Array.getElem?_setIfInBounds, hlt]) hz oq) ⟨by rw [hz]; exact hS.1, fun q g1 g2 => by
      rw [oq q (fun e => g2 (by rw [e]; exact Nat.le_add_right B o2))]
      exact hS.2.1 q g1 g2, fun q hq => by
      rcases List.mem_append.mp hq with h | h
      · exact hS.2.2 q h
      · obtain ⟨z, -, hz⟩ := List.mem_map.mp h
        rw [← hz]
        exact Nat.le_add_right B o2⟩ h1 h2 h3 h4 hl _ hheap X'
  exact ⟨t, step t a1, b1⟩
set_option maxHeartbeats 400000 in
theorem r_Lir_copyRow {hp : List zC} {o1 o2 N : Nat} {f g : Nat → Int32} (ho1 : hp[o1]? = some (.inl (N, f))) (ho2 : hp[o2]? = some (.inl (N, g))) (hN : N < 1000) : Ret 1 0 0 m_Lir_copyRow [.ref o1, .ref o2] (hp) (none) (hp.set o2 (.inl (N, cp f g N))) := by
  refine Ret.of (n := 0) (by decide) (trivial) rfl (fun X => ?_)
  refine z_aload_n d_Lir_copyRow_0 rfl 1 rfl ?_
  refine z_iconst d_Lir_copyRow_1 0 (by decide) 2 rfl ?_
  refine z_aload_n d_Lir_copyRow_2 rfl 3 rfl ?_
  refine z_iconst d_Lir_copyRow_3 0 (by decide) 4 rfl ?_
  refine z_aload_n d_Lir_copyRow_4 rfl 5 rfl ?_
  refine z_alenI d_Lir_copyRow_5 6 rfl ho1 (nI N) rfl ?_
  refine z_aload_n d_Lir_copyRow_6 rfl 7 rfl ?_
  refine z_alenI d_Lir_copyRow_7 8 rfl ho2 (nI N) rfl ?_
  refine z_mmin d_Lir_copyRow_8 11 rfl lk_Lir_272 st_Mat_min zi_Mat (hm_Mat_min).1 (by decide) (Nat.le_of_ble_eq_true rfl) ?_
  refine z_top (.int (nI N)) (by rw [ite_self]) ?_
  refine z_L _ rfl ?_
  refine z_copy (N := N) (st := []) d_Lir_copyRow_11 14 rfl lk_Lir_275 ho1 ho2 hN (by decide) (Nat.le_of_ble_eq_true rfl) ?_
  exact z_return d_Lir_copyRow_14 rfl rfl
def cpO (f g : Nat → Option Nat) (k : Nat) : Nat → Option Nat := fun j => if j < k then f j else g j
theorem cpO_0 (f g : Nat → Option Nat) : cpO f g 0 = g := by funext j; simp [cpO]
theorem cpO_s (f g : Nat → Option Nat) (k : Nat) : va_up (cpO f g k) k (f k) = cpO f g (k + 1) := by
  funext j
  unfold va_up cpO
  by_cases h : j = k
  · subst h; simp
  · by_cases h2 : j < k
    · simp [h, h2, show j < k + 1 by omega]
    · simp [h, h2, show ¬ j < k + 1 by omega]
def cpC (f g : Nat → Nat → Int32) (k : Nat) : Nat → Nat → Int32 := fun l => if l < k then cp (f l) (g l) 7 else g l
theorem cpC_0 (f g : Nat → Nat → Int32) : cpC f g 0 = g := by funext j; simp [cpC]
theorem cpC_s (f g : Nat → Nat → Int32) (k : Nat) : (fun i => if i = k then cp (f k) (g k) 7 else cpC f g k i) = cpC f g (k + 1) := by
  funext j
  unfold cpC
  by_cases h : j = k
  · subst h; simp
  · by_cases h2 : j < k
    · simp [h, h2, show j < k + 1 by omega]
    · simp [h, h2, show ¬ j < k + 1 by omega]
theorem cpC_k (f g : Nat → Nat → Int32) (k : Nat) : cpC f g k k = g k := by simp [cpC]
theorem cp_k (f g : Nat → Int32) (k : Nat) : cp f g k k = g k := by simp [cp]
theorem set_same {hp : List zC} {o : Nat} {c : zC} (h : hp[o]? = some c) : hp.set o c = hp := by
  obtain ⟨h1, h2⟩ := List.getElem?_eq_some_iff.mp h
  subst h2
  exact List.set_getElem_self h1
theorem set_at {hp : List zC} {o q : Nat} {c c' a : zC} (h : hp[q]? = some a) (ho : hp[o]? = some c) (hne : a ≠ c) : (hp.set o c')[q]? = some a := by
  have : o ≠ q := fun e => by subst e; rw [h] at ho; exact hne (Option.some.inj ho)
  rw [List.getElem?_set_ne this]; exact h
theorem set_self {hp : List zC} {o : Nat} {c c' : zC} (h : hp[o]? = some c) : (hp.set o c')[o]? = some c' := by
  obtain ⟨h1, h2⟩ := List.getElem?_eq_some_iff.mp h
  simp [h1]
def TO (tl : List zC) (f : Nat → Option Nat) (N : Nat) : Prop := ∀ i, i < N → f i = none ∨ ∃ j v, f i = some (51 + j) ∧ tl[j]? = some (tcell v)
def TOh (hp : List zC) (f : Nat → Option Nat) (N : Nat) : Prop := ∀ i, i < N → f i = none ∨ ∃ P ci fs, f i = some P ∧ hp[P]? = some (.inr (.inr (ci, fs))) ∧ ci ∈ zTel
theorem TO.h {K : zKK} {u : zU} {tl : List zC} {f : Nat → Option Nat} {N : Nat} (h : TO tl f N) : TOh (wld K u tl) f N := fun i hi => by
  rcases h i hi with g | ⟨j, v, g1, g2⟩
  · exact Or.inl g
  · exact Or.inr ⟨_, _, _, g1, (wl_tl j).trans g2, kci_mem _⟩
theorem set_at2 {hp : List zC} {o q : Nat} {c c' a : zC} (h : hp[q]? = some a) (ho : hp[o]? = some c) (hne : q ≠ o) : (hp.set o c')[q]? = some a := by
  rw [List.getElem?_set_ne (Ne.symm hne)]; exact h
set_option maxHeartbeats 400000 in
theorem r_Roo_copyTellings {hp : List zC} {o1 o2 N : Nat} {f g : Nat → Option Nat} (ho1 : hp[o1]? = some (.inr (.inl (1, N, f)))) (ho2 : hp[o2]? = some (.inr (.inl (1, N, g)))) (hne : o1 ≠ o2) (hN : N < 1000) (hO : TOh hp f N) : Ret 0 0 0 m_Roo_copyTellings [.ref o1, .ref o2] (hp) (none) (hp.set o2 (.inr (.inl (1, N, cpO f g N)))) := by
  refine Ret.of (n := 1) (by decide) (trivial) rfl (fun X => ?_)
  refine z_iconst d_Roo_copyTellings_0 0 (by decide) 1 rfl ?_
  refine z_istore_n d_Roo_copyTellings_1 2 rfl (by decide) rfl ?_
  refine z_hp (hp1 := hp.set o2 (.inr (.inl (1, N, cpO f g 0)))) (by rw [cpO_0, set_same ho2]) ?_
  refine zloop (fun i => Z X m_Roo_copyTellings 0 0 0 (none) (hp.set o2 (.inr (.inl (1, N, cpO f g N)))) 2 [some (.ref o1), some (.ref o2), some (.int (nI i))] [] (hp.set o2 (.inr (.inl (1, N, cpO f g (i)))))) (N) ?_ ?_ 0 (Nat.zero_le _)
  · refine z_iload_n d_Roo_copyTellings_2 rfl 3 rfl ?_
    refine z_aload_n d_Roo_copyTellings_3 rfl 4 rfl ?_
    refine z_alenR d_Roo_copyTellings_4 5 rfl (set_at2 ho1 ho2 hne) (Or.inr rfl) (nI N) rfl ?_
    refine z_icmp_ge d_Roo_copyTellings_5 26 8 (by decide) rfl (fun h1 => ?_) (fun hzz => absurd (Int32.le_refl _) hzz)
    exact z_return d_Roo_copyTellings_26 rfl rfl
  · intro i hi ih
    refine z_iload_n d_Roo_copyTellings_2 rfl 3 rfl ?_
    refine z_aload_n d_Roo_copyTellings_3 rfl 4 rfl ?_
    refine z_alenR d_Roo_copyTellings_4 5 rfl (set_at2 ho1 ho2 hne) (Or.inr rfl) (nI N) rfl ?_
    refine z_icmp_ge d_Roo_copyTellings_5 26 8 (by decide) rfl (fun hzz => absurd hzz (nI_ge hi (by omega))) (fun h2 => ?_)
    refine z_iload_n d_Roo_copyTellings_8 rfl 9 rfl ?_
    refine z_aload_n d_Roo_copyTellings_9 rfl 10 rfl ?_
    refine z_alenR d_Roo_copyTellings_10 11 rfl (set_self ho2) (Or.inr rfl) (nI N) rfl ?_
    refine z_icmp_ge d_Roo_copyTellings_11 26 14 (by decide) rfl (fun hzz => absurd hzz (nI_ge hi (by omega))) (fun h3 => ?_)
    refine z_aload_n d_Roo_copyTellings_14 rfl 15 rfl ?_
    refine z_iload_n d_Roo_copyTellings_15 rfl 16 rfl ?_
    refine z_aload_n d_Roo_copyTellings_16 rfl 17 rfl ?_
    refine z_iload_n d_Roo_copyTellings_17 rfl 18 rfl ?_
    rcases hO i hi with hz | ⟨P, ci, fs, hz, hP, hci⟩
    · refine z_aaload d_Roo_copyTellings_18 i 19 rfl (set_at2 ho1 ho2 hne) (Or.inr rfl) rfl hi (by omega) (by rw [hz]) ?_
      refine z_aastoreN d_Roo_copyTellings_19 i 20 rfl (set_self ho2) (Or.inr rfl) rfl hi (by omega) ?_
      refine z_hp (by rw [List.set_set, ← hz, cpO_s]) ?_
      refine z_iinc d_Roo_copyTellings_20 1 (by decide) 23 rfl rfl (by decide) rfl ?_
      refine z_goto d_Roo_copyTellings_23 2 (by decide) ?_
      exact z_Lg _ ih (by simp [zLw, List.set, nI_succ])
    · refine z_aaload d_Roo_copyTellings_18 i 19 rfl (set_at2 ho1 ho2 hne) (Or.inr rfl) rfl hi (by omega) (by rw [hz]) ?_
      refine z_aastoreT d_Roo_copyTellings_19 i 20 rfl (set_self ho2) (set_at hP ho2 (fun e => by cases e)) hci rfl hi (by omega) ?_
      refine z_hp (by rw [List.set_set, ← hz, cpO_s]) ?_
      refine z_iinc d_Roo_copyTellings_20 1 (by decide) 23 rfl rfl (by decide) rfl ?_
      refine z_goto d_Roo_copyTellings_23 2 (by decide) ?_
      exact z_Lg _ ih (by simp [zLw, List.set, nI_succ])
set_option maxHeartbeats 400000 in
theorem r_Law_becomeLike {hp : List zC} {o o' c c' : Nat} {q q' : Int32} {f f' : Nat → Int32} (ho : hp[o]? = some (.inr (.inr (4, [.ref c, .int q])))) (ho' : hp[o']? = some (.inr (.inr (4, [.ref c', .int q'])))) (hc : hp[c]? = some (.inl (7, f))) (hc' : hp[c']? = some (.inl (7, f'))) : Ret 2 0 0 m_Law_becomeLike [.ref o, .ref o'] (hp) (none) ((hp.set c (.inl (7, cp f' f 7))).set o (.inr (.inr (4, List.set [.ref c, .int q] 1 (.int q'))))) := by
  refine Ret.of (n := 0) (by decide) (trivial) rfl (fun X => ?_)
  refine z_aload_n d_Law_becomeLike_0 rfl 1 rfl ?_
  refine z_get d_Law_becomeLike_1 4 rfl fl_Law_9_4 ho' rfl ?_
  refine z_aload_n d_Law_becomeLike_4 rfl 5 rfl ?_
  refine z_get d_Law_becomeLike_5 8 rfl fl_Law_9_4 ho rfl ?_
  refine z_invSNv d_Law_becomeLike_8 11 rfl hm_Lir_copyRow (by decide) st_Lir_copyRow (r_Lir_copyRow hc' hc (by decide)) rfl rfl (by decide) rfl rfl (Nat.le_of_ble_eq_true rfl) ?_
  refine z_aload_n d_Law_becomeLike_11 rfl 12 rfl ?_
  refine z_aload_n d_Law_becomeLike_12 rfl 13 rfl ?_
  refine z_get d_Law_becomeLike_13 16 rfl fl_Law_15_4 (set_at ho' hc (fun e => by cases e)) rfl ?_
  refine z_putI d_Law_becomeLike_16 19 rfl fp_Law_15_4 (Or.inl rfl) (set_at ho hc (fun e => by cases e)) (by simp) ?_
  exact z_return d_Law_becomeLike_19 rfl rfl
