/-! GLASSES: one ring after the other, or all sets -/
theorem smN_head (F : Nat → Nat) : ∀ n, smN F (n + 1) = F 0 + smN (fun i => F (i + 1)) n
  | 0 => by simp [smN]
  | n + 1 => by
    have ih := smN_head F n
    show smN F (n + 1) + F (n + 1) = F 0 + (smN (fun i => F (i + 1)) n + F (n + 1))
    rw [ih]; omega
abbrev btN (x q : Nat) : Nat := x / 2 ^ q % 2
theorem pop_sum : ∀ f x, pop f x = smN (btN x) f
  | 0, _ => rfl
  | f + 1, x => by
    rw [smN_head]
    show x % 2 + pop f (x / 2) = _
    rw [pop_sum f (x / 2)]
    congr 1
    · simp [btN]
    · refine smN_congr (fun i _ => ?_)
      simp only [btN]
      rw [Nat.div_div_eq_div_mul, Nat.pow_succ, Nat.mul_comm 2]
theorem bt_le (x q : Nat) : btN x q ≤ 1 := by
  have : x / 2 ^ q % 2 < 2 := Nat.mod_lt _ (by decide)
  simp only [btN]; omega
theorem bt_hi {x q r : Nat} (hx : x < 2 ^ r) (h : r ≤ q) : btN x q = 0 := by
  have h1 : 2 ^ r ≤ 2 ^ q := Nat.pow_le_pow_right (by decide) h
  simp only [btN]
  rw [Nat.div_eq_of_lt (by omega)]
theorem bt_sub : ∀ x, x < 1024 → ∀ e, e < 10 → btN x e = 1 → 2 ^ e ≤ x ∧ ∀ q, q < 10 → btN x q = btN (x - 2 ^ e) q + (if q = e then 1 else 0) := by decide +kernel
theorem bt_add : ∀ x, x < 1024 → ∀ e, e < 10 → btN x e = 0 → x + 2 ^ e < 1024 ∧ nI x ||| 1 <<< (nI e &&& 31) = nI (x + 2 ^ e) ∧ ∀ q, q < 10 → btN (x + 2 ^ e) q = btN x q + (if q = e then 1 else 0) := by decide +kernel
theorem bt_mk : ∀ x, x < 1024 → ∀ q, q < 10 → (nI x >>> (nI q &&& 31)) &&& 1 = nI (btN x q) := by decide +kernel
theorem bt_mkd {x q : Nat} (hx : x < 1024) (hq : q < 10) : mkd (nI x) (nI q) = decide (btN x q = 1) := by
  unfold mkd
  rw [bt_mk x hx q hq]
  have := bt_le x q
  exact decide_eq_decide.mpr (nI_eq (b := 1) (by omega) (by decide))
def sN (P : Nat → Nat) (x r : Nat) : Nat := smN (fun q => btN x q * P q) r
theorem sN_add {P : Nat → Nat} {x y e r : Nat} (hr : r ≤ 10) (he : e < r) (h : ∀ q, q < 10 → btN y q = btN x q + (if q = e then 1 else 0)) : sN P y r = sN P x r + P e := by
  unfold sN
  have : smN (fun q => btN y q * P q) r = smN (fun q => btN x q * P q + (if q = e then P e else 0)) r := by
    refine smN_congr (fun q hq => ?_)
    rw [h q (by omega)]
    by_cases hqe : q = e
    · subst hqe; rw [if_pos rfl, if_pos rfl, Nat.add_mul, Nat.one_mul]
    · rw [if_neg hqe, if_neg hqe]; rfl
  rw [this, smN_add, smN_one, if_pos he]
theorem pop_add {x y e : Nat} (he : e < 10) (h : ∀ q, q < 10 → btN y q = btN x q + (if q = e then 1 else 0)) : pop 10 y = pop 10 x + 1 := by
  rw [pop_sum, pop_sum, smN_congr (F := btN y) (G := fun q => btN x q + (if q = e then 1 else 0)) (fun q hq => h q hq), smN_add, smN_one, if_pos he]
theorem sN_le {P : Nat → Nat} {x r : Nat} (hr : r ≤ 10) (hP : ∀ q, q < 10 → P q ≤ 999) : sN P x r ≤ 9990 := by
  have : smN (fun q => btN x q * P q) r ≤ r * 999 := smN_le (fun q hq => by
    have h1 := bt_le x q
    have h2 := hP q (by omega)
    rcases (show btN x q = 0 ∨ btN x q = 1 by omega) with h | h <;> rw [h] <;> omega)
  unfold sN
  omega
theorem pow_le10 {r : Nat} (hr : r ≤ 10) : 2 ^ r ≤ 1024 := Nat.pow_le_pow_right (n := 2) (by decide) hr
/-- the fullest ring that is not chosen -/
theorem fr_spec {pp : Nat → Int32} {P : Nat → Nat} {r x : Nat} (hr : r ≤ 10) (hx : x < 1024) (hp : ∀ q, q < 10 → pp q = nI (P q)) (hP : ∀ q, q < 10 → P q ≤ 999) : ∀ i, i ≤ r →
    (frC pp (nI x) i = (-1, -1) ∧ ∀ q, q < i → btN x q = 1) ∨ ∃ k, k < i ∧ btN x k = 0 ∧ frC pp (nI x) i = (nI k, nI (P k)) ∧ ∀ q, q < i → btN x q = 0 → P q < P k ∨ (P q = P k ∧ k ≤ q)
  | 0, _ => Or.inl ⟨rfl, fun q h => absurd h (Nat.not_lt_zero q)⟩
  | i + 1, h => by
    have ih := fr_spec hr hx hp hP i (by omega)
    have hb := bt_le x i
    have hpi := hP i (by omega)
    by_cases h1 : btN x i = 1
    · have e : frC pp (nI x) (i + 1) = frC pp (nI x) i := by
        simp only [frC]
        rw [if_pos (by rw [bt_mkd hx (by omega)]; exact decide_eq_true h1)]
      rw [e]
      rcases ih with ⟨e1, h2⟩ | ⟨k, hk, k0, e1, h2⟩
      · refine Or.inl ⟨e1, fun q hq => ?_⟩
        by_cases hqi : q = i
        · subst hqi; exact h1
        · exact h2 q (by omega)
      · refine Or.inr ⟨k, by omega, k0, e1, fun q hq hq0 => ?_⟩
        by_cases hqi : q = i
        · subst hqi; omega
        · exact h2 q (by omega) hq0
    · have e : frC pp (nI x) (i + 1) = if pp i ≤ (frC pp (nI x) i).2 then frC pp (nI x) i else (nI i, pp i) := by
        simp only [frC]
        rw [if_neg (by rw [bt_mkd hx (by omega)]; simp only [decide_eq_true_eq]; exact h1)]
      rw [e]
      rcases ih with ⟨e1, h2⟩ | ⟨k, hk, k0, e1, h2⟩
      · rw [e1, hp i (by omega)]
        have : ¬ nI (P i) ≤ -1 := fun z => by
          have h5 := Int32.le_iff_toInt_le.mp z
          rw [nI_toInt (by omega), show (-1 : Int32).toInt = -1 from rfl] at h5
          omega
        rw [if_neg this]
        refine Or.inr ⟨i, by omega, by omega, rfl, fun q hq hq0 => ?_⟩
        by_cases hqi : q = i
        · subst hqi; exact Or.inr ⟨rfl, Nat.le_refl _⟩
        · have := h2 q (by omega); omega
      · rw [e1, hp i (by omega)]
        have hpk := hP k (by omega)
        by_cases hle : P i ≤ P k
        · rw [if_pos (nI_le hle (by omega))]
          refine Or.inr ⟨k, by omega, k0, rfl, fun q hq hq0 => ?_⟩
          by_cases hqi : q = i
          · subst hqi; omega
          · exact h2 q (by omega) hq0
        · rw [if_neg (nI_ge (by omega) (by omega))]
          refine Or.inr ⟨i, by omega, by omega, rfl, fun q hq hq0 => ?_⟩
          by_cases hqi : q = i
          · subst hqi; exact Or.inr ⟨rfl, Nat.le_refl _⟩
          · have := h2 q (by omega) hq0; omega
/-- one after the other: none of as many rings is better -/
theorem gl_spec {pp : Nat → Int32} {P : Nat → Nat} {r : Nat} (hr : r ≤ 10) (hp : ∀ q, q < 10 → pp q = nI (P q)) (hP : ∀ q, q < 10 → P q ≤ 999) : ∀ i, ∃ x, x < 2 ^ r ∧ glC pp r i = nI x ∧ pop 10 x = min i r ∧ ∀ y, y < 2 ^ r → pop 10 y = min i r → 1024 * sN P y r + x ≤ 1024 * sN P x r + y
  | 0 => ⟨0, Nat.pow_pos (by decide), rfl, by rw [Nat.zero_min]; rfl, fun y hy h => by
      rw [Nat.zero_min] at h
      have hz : ∀ q, q < 10 → btN y q = 0 := fun q hq => by
        by_cases h0 : btN y q = 0
        · exact h0
        · have h1 := bt_le y q
          have h2 := bt_sub y (Nat.lt_of_lt_of_le hy (pow_le10 hr)) q hq (by omega)
          have h3 := pop_add (x := y - 2 ^ q) (y := y) hq h2.2
          omega
      have : sN P y r ≤ r * 0 := smN_le (fun q hq => by rw [hz q (by omega)]; omega)
      omega⟩
  | i + 1 => by
    obtain ⟨x, hx, e, hc, hbest⟩ := gl_spec hr hp hP i
    have h1024 := pow_le10 hr
    have hx2 : x < 1024 := by omega
    rcases fr_spec hr hx2 hp hP r (Nat.le_refl _) with ⟨e1, hall⟩ | ⟨k, hk, k0, e1, hmax⟩
    · have eg : glC pp r (i + 1) = nI x := by
        simp only [glC]
        rw [e, e1, if_pos (by decide)]
      have hr2 : r ≤ pop 10 x := by
        rw [pop_sum]
        have hm : ∀ m, m ≤ r → m ≤ smN (btN x) m := by
          intro m
          induction m with
          | zero => intro _; exact Nat.zero_le _
          | succ m ih =>
            intro hm
            have := ih (by omega)
            have := hall m (by omega)
            simp only [smN]; omega
        have h1 := hm r (Nat.le_refl _)
        have h2 : ∀ d, smN (btN x) r ≤ smN (btN x) (r + d) := by
          intro d
          induction d with
          | zero => exact Nat.le_refl _
          | succ d ih => rw [Nat.add_succ]; simp only [smN]; omega
        have h3 := h2 (10 - r)
        rw [show r + (10 - r) = 10 by omega] at h3
        omega
      have em : min (i + 1) r = min i r := by omega
      rw [em]
      exact ⟨x, hx, eg, hc, hbest⟩
    · have hk10 : k < 10 := by omega
      obtain ⟨a1, a2, a3⟩ := bt_add x hx2 k hk10 k0
      have eg : glC pp r (i + 1) = nI (x + 2 ^ k) := by
        simp only [glC]
        rw [e, e1]
        show (if nI k < 0 then nI x else nI x ||| 1 <<< (nI k &&& 31)) = _
        rw [if_neg (nI_pos (by omega)), a2]
      have hpop := pop_add (x := x) (y := x + 2 ^ k) hk10 a3
      have hlt : x + 2 ^ k < 2 ^ r := by
        have h6 : ∀ r, r ≤ 10 → ∀ x, x < 1024 → x < 2 ^ r → ∀ k, k < r → btN x k = 0 → x + 2 ^ k < 2 ^ r := by decide +kernel
        exact h6 r hr x hx2 hx k hk k0
      have hcr : pop 10 x < r := by
        rw [pop_sum]
        have hm : ∀ m, m ≤ 10 → smN (btN x) m + (if k < m then 1 else 0) ≤ min m r := by
          intro m
          induction m with
          | zero => intro _; simp [smN]
          | succ m ih =>
            intro hm
            have h1 := ih (by omega)
            have h2 := bt_le x m
            simp only [smN]
            by_cases hmr : r ≤ m
            · have := bt_hi hx hmr
              rw [if_pos (by omega)] at h1
              rw [if_pos (by omega)]
              omega
            · by_cases hkm : k = m
              · subst hkm
                rw [if_neg (by omega)] at h1
                rw [if_pos (by omega)]
                omega
              · by_cases hkm2 : k < m
                · rw [if_pos hkm2] at h1
                  rw [if_pos (by omega)]
                  omega
                · rw [if_neg hkm2] at h1
                  rw [if_neg (by omega)]
                  omega
        have := hm 10 (Nat.le_refl _)
        rw [if_pos hk10] at this
        omega
      have em : min (i + 1) r = pop 10 x + 1 := by omega
      have em2 : min i r = pop 10 x := hc.symm
      rw [em]
      refine ⟨x + 2 ^ k, hlt, eg, hpop, fun y hy hcy => ?_⟩
      have hy2 : y < 1024 := by omega
      have hex : ∃ d, d < 10 ∧ btN y d = 1 ∧ btN x d = 0 := by
        by_cases hne : ∃ d, d < 10 ∧ btN y d = 1 ∧ btN x d = 0
        · exact hne
        · exfalso
          have : pop 10 y ≤ pop 10 x := by
            rw [pop_sum, pop_sum]
            refine smN_mono (fun d hd => ?_)
            have h1 := bt_le y d
            have h2 := bt_le x d
            by_cases h3 : btN y d = 1
            · by_cases h4 : btN x d = 0
              · exact absurd ⟨d, hd, h3, h4⟩ hne
              · omega
            · omega
          omega
      obtain ⟨d, hd, y1, x0⟩ := hex
      have hdr : d < r := by
        by_cases h : d < r
        · exact h
        · have := bt_hi hy (show r ≤ d by omega)
          omega
      obtain ⟨b1, b2⟩ := bt_sub y hy2 d hd y1
      have p1 := pop_add (x := y - 2 ^ d) (y := y) hd b2
      have s1 := sN_add (P := P) hr hdr b2
      have s2 := sN_add (P := P) hr hk a3
      have hpd : 0 < 2 ^ d := Nat.pow_pos (by decide)
      have hb := hbest (y - 2 ^ d) (Nat.lt_of_le_of_lt (Nat.sub_le _ _) hy) (by omega)
      have hv : 1024 * P d + 2 ^ k ≤ 1024 * P k + 2 ^ d := by
        rcases hmax d hdr x0 with h | ⟨h, h2⟩
        · have h7 : 2 ^ k ≤ 2 ^ 9 := Nat.pow_le_pow_right (by decide) (by omega)
          omega
        · have h7 : 2 ^ k ≤ 2 ^ d := Nat.pow_le_pow_right (by decide) h2
          omega
      omega
/-- all sets: the first of the best -/
theorem gb_spec {s : Nat → Int32} {P : Nat → Nat} {r k : Nat} (hr : r ≤ 10) (hp : ∀ q, q < 10 → s (254 + q) = nI (P q)) (hP : ∀ q, q < 10 → P q ≤ 999) : ∀ N, N ≤ 2 ^ r →
    (gbV s r k N = (-9, 0) ∧ ∀ x, x < N → ¬ pop 10 x = k) ∨ ∃ b, b < N ∧ pop 10 b = k ∧ gbV s r k N = (nI b, nI (sN P b r)) ∧ ∀ x, x < N → pop 10 x = k → sN P x r ≤ sN P b r ∧ (x < b → sN P x r < sN P b r)
  | 0, _ => Or.inl ⟨rfl, fun x h => absurd h (Nat.not_lt_zero x)⟩
  | N + 1, h => by
    have ih := gb_spec (k := k) hr hp hP N (by omega)
    have h1024 := pow_le10 hr
    have es : rgS s (nI N) r = nI (sN P N r) := by
      unfold rgS sN
      refine sm_nat (fun q hq => ?_)
      rw [bt_mk N (by omega) q (by omega), hp q (by omega), pk_mul]
    have hsN := sN_le (x := N) hr hP
    by_cases hk : pop 10 N = k
    · have e : gbV s r k (N + 1) = if 0 ≤ (gbV s r k N).1 ∧ rgS s (nI N) r ≤ (gbV s r k N).2 then gbV s r k N else (nI N, rgS s (nI N) r) := by
        simp only [gbV]; rw [if_pos hk]
      rw [e, es]
      rcases ih with ⟨e1, h2⟩ | ⟨b, hb, kb, e1, h2⟩
      · rw [e1, if_neg (fun z => absurd z.1 (by decide))]
        refine Or.inr ⟨N, by omega, hk, rfl, fun x hx hxk => ?_⟩
        by_cases hxN : x = N
        · subst hxN; exact ⟨Nat.le_refl _, fun z => absurd z (Nat.lt_irrefl _)⟩
        · exact absurd hxk (h2 x (by omega))
      · rw [e1]
        have hsb := sN_le (x := b) hr hP
        by_cases hle : sN P N r ≤ sN P b r
        · rw [if_pos ⟨nI_pos' (by omega), nI_le hle (by omega)⟩]
          refine Or.inr ⟨b, by omega, kb, rfl, fun x hx hxk => ?_⟩
          by_cases hxN : x = N
          · subst hxN; exact ⟨hle, fun z => by omega⟩
          · exact h2 x (by omega) hxk
        · rw [if_neg (fun z => hle ((nI_leI (by omega) (by omega)).mp z.2))]
          refine Or.inr ⟨N, by omega, hk, rfl, fun x hx hxk => ?_⟩
          by_cases hxN : x = N
          · subst hxN; exact ⟨Nat.le_refl _, fun z => absurd z (Nat.lt_irrefl _)⟩
          · have := (h2 x (by omega) hxk).1
            exact ⟨by omega, fun _ => by omega⟩
    · have e : gbV s r k (N + 1) = gbV s r k N := by
        simp only [gbV]; rw [if_neg hk]
      rw [e]
      rcases ih with ⟨e1, h2⟩ | ⟨b, hb, kb, e1, h2⟩
      · refine Or.inl ⟨e1, fun x hx => ?_⟩
        by_cases hxN : x = N
        · subst hxN; exact hk
        · exact h2 x (by omega)
      · refine Or.inr ⟨b, by omega, kb, e1, fun x hx hxk => ?_⟩
        by_cases hxN : x = N
        · subst hxN; exact absurd hxk hk
        · exact h2 x (by omega) hxk
section
variable {T PF PS : Nat → Option Nat} {C : Nat → Nat → Int32} {rc g pp bn sc s : Nat → Int32} {tl : List zC} {n q : Nat}
theorem glasses_eq (I : RR T PF PS C rc g pp bn sc s tl n q) {r m : Nat} (hr : r ≤ 10) : glC pp r m = (gbV s r (min m r) (2 ^ r)).1 := by
  have hP : ∀ k, k < 10 → s (254 + k) = nI (ix (s (254 + k))) ∧ ix (s (254 + k)) ≤ 999 := fun k hk => (I.rg.pp k hk).ix
  obtain ⟨x, hx, e, hc, hbest⟩ := gl_spec (pp := pp) (P := fun k => ix (s (254 + k))) hr (fun k hk => by rw [I.cpp k hk]; exact (hP k hk).1) (fun k hk => (hP k hk).2) m
  rw [e]
  rcases gb_spec (s := s) (P := fun k => ix (s (254 + k))) (k := min m r) hr (fun k hk => (hP k hk).1) (fun k hk => (hP k hk).2) (2 ^ r) (Nat.le_refl _) with ⟨-, h2⟩ | ⟨b, hb, kb, e1, h2⟩
  · exact absurd hc (h2 x hx)
  · rw [e1]
    have h3 := h2 x hx hc
    have h4 := hbest b hb kb
    have h1024 := pow_le10 hr
    show nI x = nI b
    congr 1
    by_cases hxb : x < b
    · have := h3.2 hxb; omega
    · omega
end
