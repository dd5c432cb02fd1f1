/-! Heap.gather, Heap.layDown -/
def cds (cov : Nat → Nat) : Nat → List Nat
  | 0 => []
  | i + 1 => if cov i = 0 then cds cov i else cds cov i ++ [i]
def orC (cov : Nat → Nat) : Nat → Nat
  | 0 => 0
  | i + 1 => orC cov i ||| cov i
theorem cds_len (cov : Nat → Nat) : ∀ n, (cds cov n).length ≤ n
  | 0 => Nat.le_refl _
  | n + 1 => by
    have h := cds_len cov n
    simp only [cds]; split
    · omega
    · rw [List.length_append]; simp only [List.length_cons, List.length_nil]; omega
theorem cds_lt (cov : Nat → Nat) : ∀ n x, x ∈ cds cov n → x < n
  | 0, x, h => by simp [cds] at h
  | n + 1, x, h => by
    simp only [cds] at h; split at h
    · have := cds_lt cov n x h; omega
    · rcases List.mem_append.mp h with h | h
      · have := cds_lt cov n x h; omega
      · simp at h; omega
theorem orC_lt {cov : Nat → Nat} (h : ∀ i, cov i < 4096) : ∀ n, orC cov n < 4096
  | 0 => by simp [orC]
  | n + 1 => Nat.or_lt_two_pow (n := 12) (orC_lt h n) (h n)
theorem orC_bit {cov : Nat → Nat} : ∀ n b, (orC cov n).testBit b = true → ∃ e ∈ (cds cov n).map cov, e.testBit b = true
  | 0, b, h => by simp [orC] at h
  | n + 1, b, h => by
    simp only [orC, Nat.testBit_or, Bool.or_eq_true] at h
    simp only [cds]
    rcases h with h | h
    · obtain ⟨e, he, hb⟩ := orC_bit n b h
      split
      · exact ⟨e, he, hb⟩
      · exact ⟨e, by rw [List.map_append]; exact List.mem_append_left _ he, hb⟩
    · rw [if_neg (fun e => by rw [e] at h; simp at h)]
      exact ⟨cov n, by rw [List.map_append]; exact List.mem_append_right _ (by simp), h⟩
/-- what a part of the machine covers: nothing, if it can't be named -/
def covP (To Bo : Nat → Int32) (th n : Nat) (r : PRt) : Nat := if allS To Bo th n (lA r.2.2.2.2.2.2.1) (lA r.2.2.2.2.2.2.2) r.2.2.2.2.2.1 = true then expN To Bo th n (lA r.2.2.2.2.2.2.1) (lA r.2.2.2.2.2.2.2) r.2.2.2.2.2.1 else 0
theorem exp_pos {To Bo : Nat → Int32} {th n : Nat} {fa fb : Nat → Int64} : ∀ pn, 0 < pn → allS To Bo th n fa fb pn = true → ¬ expN To Bo th n fa fb pn = 0
  | 0, h, _ => absurd h (Nat.lt_irrefl 0)
  | k + 1, _, h => by
    simp only [allS, Bool.and_eq_true, decide_eq_true_eq] at h
    intro e
    simp only [expN] at e
    exact h.2 (Nat.or_eq_zero_iff.mp e).2
/-- which part bears a number: in the pool, with one to three tones; cov: what it covers -/
def PartsAt (fo fg fr : Nat → Option Nat) (sh rg : Nat) (ps : List PRt) (To Bo : Nat → Int32) (th n : Nat) (cov : Nat → Nat) : Prop :=
  (∀ i, i < 2 * sh - 1 + rg * 4 → ∃ r ∈ ps, fFind fo fg fr sh rg (nI i) = some r.1 ∧ 0 < r.2.2.2.2.2.1 ∧ r.2.2.2.2.2.1 ≤ 3 ∧ cov i = covP To Bo th n r) ∧ (∀ i, 2 * sh - 1 + rg * 4 ≤ i → cov i = 0) ∧ ∀ i, cov i < 4096

set_option maxHeartbeats 1000000 in
set_option maxRecDepth 100000 in
theorem c_X0_gather (l : Launch) (E : EnvT) (sz : Nat) (h0 : Nat) (an : Nat) (ae : Nat) (af : Nat) (ac : Nat) (h1 : Nat) (aa : Nat) (ab : Nat) (ao : Nat) (ag : Nat) (ar : Nat) (sh : Nat) (rg : Nat) (fo : Nat → Option Nat) (fg : Nat → Option Nat) (fr : Nat → Option Nat) (h2 : Nat) (a1 : Nat) (a2 : Nat) (n : Nat) (th : Nat) (To : Nat → Int32) (Bo : Nat → Int32) (ps : List PRt) (cov : Nat → Nat) (cd : Int32) (tg : Int32) (szz : Int32) (ld : Int32) (Nu : Nat → Nat) (Ex : Nat → Nat) (hs1 : 1 ≤ sh) (hs4 : sh ≤ 4) (hr8 : rg ≤ 8) (hn : n ≤ 12) (hth : th ≤ 100) (hPA : PartsAt fo fg fr sh rg ps To Bo th n cov) : Met l yX0_gather wsX0_gather ({ frames := 3, cells := 0, slots := 0, locals := 74 }) (va_Pc [.ref h0, .ref h1, .ref h2] (PW E ([(h0, .inr (0, [.ref an, .ref ae, .ref af, .ref ac, .int cd, .int tg, .int szz, .int ld])), (an, .inl (E.2 1, 39, .inl (nA Nu))), (ae, .inl (E.2 1, 39, .inl (nA Ex))), (h1, .inr (3, [.ref aa, .ref ab, .ref ao, .ref ag, .ref ar, .int (nI sh), .int (nI rg)])), (ao, .inl (E.2 4, 4, .inr (.inr (.inr (.inr fo))))), (ag, .inl (E.2 4, 4, .inr (.inr (.inr (.inr fg))))), (ar, .inl (E.2 4, 32, .inr (.inr (.inr (.inr fr))))), (h2, .inr (1, [.ref a1, .ref a2, .int (nI n), .int (nI th)])), (a1, .inl (E.2 1, 12, .inl To)), (a2, .inl (E.2 1, 12, .inl Bo))] ++ poolC E ps) sz)) (va_Qv (fun (uu : (Nat → Nat) × (Nat → Nat)) => RLs uu.1 (cds cov 39) ∧ RLs uu.2 ((cds cov 39).map cov)) (fun (uu : (Nat → Nat) × (Nat → Nat)) t => BW E (va_A ([(h0, .inr (0, [.ref an, .ref ae, .ref af, .ref ac, .int cd, .int tg, .int szz, .int ld])), (an, .inl (E.2 1, 39, .inl (nA Nu))), (ae, .inl (E.2 1, 39, .inl (nA Ex))), (h1, .inr (3, [.ref aa, .ref ab, .ref ao, .ref ag, .ref ar, .int (nI sh), .int (nI rg)])), (ao, .inl (E.2 4, 4, .inr (.inr (.inr (.inr fo))))), (ag, .inl (E.2 4, 4, .inr (.inr (.inr (.inr fg))))), (ar, .inl (E.2 4, 32, .inr (.inr (.inr (.inr fr))))), (h2, .inr (1, [.ref a1, .ref a2, .int (nI n), .int (nI th)])), (a1, .inl (E.2 1, 12, .inl To)), (a2, .inl (E.2 1, 12, .inl Bo))] ++ poolC E ps) sz) ([(h0, .inr (0, [.ref an, .ref ae, .ref af, .ref ac, .int (nI (cds cov 39).length), .int (nI (orC cov 39)), .int szz, .int ld])), (an, .inl (E.2 1, 39, .inl (nA uu.1))), (ae, .inl (E.2 1, 39, .inl (nA uu.2))), (h1, .inr (3, [.ref aa, .ref ab, .ref ao, .ref ag, .ref ar, .int (nI sh), .int (nI rg)])), (ao, .inl (E.2 4, 4, .inr (.inr (.inr (.inr fo))))), (ag, .inl (E.2 4, 4, .inr (.inr (.inr (.inr fg))))), (ar, .inl (E.2 4, 32, .inr (.inr (.inr (.inr fr))))), (h2, .inr (1, [.ref a1, .ref a2, .int (nI n), .int (nI th)])), (a1, .inl (E.2 1, 12, .inl To)), (a2, .inl (E.2 1, 12, .inl Bo))] ++ poolC E ps) t) (va_A ([(h0, .inr (0, [.ref an, .ref ae, .ref af, .ref ac, .int cd, .int tg, .int szz, .int ld])), (an, .inl (E.2 1, 39, .inl (nA Nu))), (ae, .inl (E.2 1, 39, .inl (nA Ex))), (h1, .inr (3, [.ref aa, .ref ab, .ref ao, .ref ag, .ref ar, .int (nI sh), .int (nI rg)])), (ao, .inl (E.2 4, 4, .inr (.inr (.inr (.inr fo))))), (ag, .inl (E.2 4, 4, .inr (.inr (.inr (.inr fg))))), (ar, .inl (E.2 4, 32, .inr (.inr (.inr (.inr fr))))), (h2, .inr (1, [.ref a1, .ref a2, .int (nI n), .int (nI th)])), (a1, .inl (E.2 1, 12, .inl To)), (a2, .inl (E.2 1, 12, .inl Bo))] ++ poolC E ps) sz)) 0 0 (va_A ([(h0, .inr (0, [.ref an, .ref ae, .ref af, .ref ac, .int cd, .int tg, .int szz, .int ld])), (an, .inl (E.2 1, 39, .inl (nA Nu))), (ae, .inl (E.2 1, 39, .inl (nA Ex))), (h1, .inr (3, [.ref aa, .ref ab, .ref ao, .ref ag, .ref ar, .int (nI sh), .int (nI rg)])), (ao, .inl (E.2 4, 4, .inr (.inr (.inr (.inr fo))))), (ag, .inl (E.2 4, 4, .inr (.inr (.inr (.inr fg))))), (ar, .inl (E.2 4, 32, .inr (.inr (.inr (.inr fr))))), (h2, .inr (1, [.ref a1, .ref a2, .int (nI n), .int (nI th)])), (a1, .inl (E.2 1, 12, .inl To)), (a2, .inl (E.2 1, 12, .inl Bo))] ++ poolC E ps) sz) := by
  refine Met.ofW (cc := cX0_gather) (maxL := 5) (ret := none) (by decide +kernel) rfl ?_
  intro p e s m args below meth c s₁ B hml hv
  obtain ⟨rfl, hsz, hP, hE, hD0⟩ := hv
  have hx := B.exec
  have hb := B.bytes
  have hr := B.returns
  have hts := atoms_spec (ws := wsX0_gather) B.pre
  have hown : s.vm.findClass RX0 = some m.cls := findClass_of_methodNamed B.named
  have hlocks := B.notSynchronized
  have hK := hE.1
  have hNN := hE.2.1
  have hinX0 : ∀ w ∈ wsX00, w ∈ wsX0_gather := fun w h => List.mem_cons_of_mem _ (List.mem_append_left _ (List.mem_append_left _ (List.mem_append_left _ (List.mem_append_right _ h))))
  subst hsz
  have hD := hD0.self (sz := s.heap.size)
  generalize hAe : va_A ([(h0, .inr (0, [.ref an, .ref ae, .ref af, .ref ac, .int cd, .int tg, .int szz, .int ld])), (an, .inl (E.2 1, 39, .inl (nA Nu))), (ae, .inl (E.2 1, 39, .inl (nA Ex))), (h1, .inr (3, [.ref aa, .ref ab, .ref ao, .ref ag, .ref ar, .int (nI sh), .int (nI rg)])), (ao, .inl (E.2 4, 4, .inr (.inr (.inr (.inr fo))))), (ag, .inl (E.2 4, 4, .inr (.inr (.inr (.inr fg))))), (ar, .inl (E.2 4, 32, .inr (.inr (.inr (.inr fr))))), (h2, .inr (1, [.ref a1, .ref a2, .int (nI n), .int (nI th)])), (a1, .inl (E.2 1, 12, .inl To)), (a2, .inl (E.2 1, 12, .inl Bo))] ++ poolC E ps) s.heap.size = A at hD ⊢
  have hA : ∀ q : Nat, s.heap.size ≤ q → A q := fun q h => by rw [← hAe]; exact Or.inr h
  have hS : va_S A s.heap s.heap [] := va_S.rf
  have hl := lv_entry ([.ref h0, .ref h1, .ref h2]) (n := 5) (Nat.le_of_ble_eq_true rfl)
  rw [lg_entry_eq]
  generalize (lg_sl ([.ref h0, .ref h1, .ref h2]) ++ List.replicate (5 - (lg_sl ([.ref h0, .ref h1, .ref h2])).length) Slot.unset).toArray = ls at hl ⊢
  have hl : lv_has ls 5 [(0, .ref h0), (1, .ref h1), (2, .ref h2)] := hl
  refine lv_aload_n hx hb dX0_gather_0 rfl (lv_at hl 0 rfl) ?_
  refine lv_iconst (v := 0) hx hb dX0_gather_1 (by decide) ?_
  refine va_put (D := E.1) (ci := 0) (v := .int 0) (ty := .int) (C := RX0) (T := TX0) (N := 8) hx hb hts hinX0 tyX0 tyX0_ok nmX0 hown hK hP hD hS 0 rfl rfl 4 (by decide) (hts (.fieldLink RX0 39 "WornRings$Heap" "candidates" "I") (by decide +kernel)) (fun _ h9 => h9) rfl (by decide +kernel) (rfl) (rfl) (Nat.le_of_ble_eq_true rfl) dX0_gather_2 (fun H locs hP hD hS => ?_)
  have hP : va_P E.1 vwCl ([(h0, .inr (0, [.ref an, .ref ae, .ref af, .ref ac, .int 0, .int tg, .int szz, .int ld])), (an, .inl (E.2 1, 39, .inl (nA Nu))), (ae, .inl (E.2 1, 39, .inl (nA Ex))), (h1, .inr (3, [.ref aa, .ref ab, .ref ao, .ref ag, .ref ar, .int (nI sh), .int (nI rg)])), (ao, .inl (E.2 4, 4, .inr (.inr (.inr (.inr fo))))), (ag, .inl (E.2 4, 4, .inr (.inr (.inr (.inr fg))))), (ar, .inl (E.2 4, 32, .inr (.inr (.inr (.inr fr))))), (h2, .inr (1, [.ref a1, .ref a2, .int (nI n), .int (nI th)])), (a1, .inl (E.2 1, 12, .inl To)), (a2, .inl (E.2 1, 12, .inl Bo))] ++ poolC E ps) H := hP
  have hD : va_D A ([(h0, .inr (0, [.ref an, .ref ae, .ref af, .ref ac, .int 0, .int tg, .int szz, .int ld])), (an, .inl (E.2 1, 39, .inl (nA Nu))), (ae, .inl (E.2 1, 39, .inl (nA Ex))), (h1, .inr (3, [.ref aa, .ref ab, .ref ao, .ref ag, .ref ar, .int (nI sh), .int (nI rg)])), (ao, .inl (E.2 4, 4, .inr (.inr (.inr (.inr fo))))), (ag, .inl (E.2 4, 4, .inr (.inr (.inr (.inr fg))))), (ar, .inl (E.2 4, 32, .inr (.inr (.inr (.inr fr))))), (h2, .inr (1, [.ref a1, .ref a2, .int (nI n), .int (nI th)])), (a1, .inl (E.2 1, 12, .inl To)), (a2, .inl (E.2 1, 12, .inl Bo))] ++ poolC E ps) := hD
  refine lv_aload_n hx hb dX0_gather_5 rfl (lv_at hl 0 rfl) ?_
  refine lv_iconst (v := 0) hx hb dX0_gather_6 (by decide) ?_
  refine va_put (D := E.1) (ci := 0) (v := .int 0) (ty := .int) (C := RX0) (T := TX0) (N := 8) hx hb hts hinX0 tyX0 tyX0_ok nmX0 hown hK hP hD hS 0 rfl rfl 5 (by decide) (hts (.fieldLink RX0 43 "WornRings$Heap" "together" "I") (by decide +kernel)) (fun _ h9 => h9) rfl (by decide +kernel) (rfl) (rfl) (Nat.le_of_ble_eq_true rfl) dX0_gather_7 (fun H locs hP hD hS => ?_)
  have hP : va_P E.1 vwCl ([(h0, .inr (0, [.ref an, .ref ae, .ref af, .ref ac, .int 0, .int 0, .int szz, .int ld])), (an, .inl (E.2 1, 39, .inl (nA Nu))), (ae, .inl (E.2 1, 39, .inl (nA Ex))), (h1, .inr (3, [.ref aa, .ref ab, .ref ao, .ref ag, .ref ar, .int (nI sh), .int (nI rg)])), (ao, .inl (E.2 4, 4, .inr (.inr (.inr (.inr fo))))), (ag, .inl (E.2 4, 4, .inr (.inr (.inr (.inr fg))))), (ar, .inl (E.2 4, 32, .inr (.inr (.inr (.inr fr))))), (h2, .inr (1, [.ref a1, .ref a2, .int (nI n), .int (nI th)])), (a1, .inl (E.2 1, 12, .inl To)), (a2, .inl (E.2 1, 12, .inl Bo))] ++ poolC E ps) H := hP
  have hD : va_D A ([(h0, .inr (0, [.ref an, .ref ae, .ref af, .ref ac, .int 0, .int 0, .int szz, .int ld])), (an, .inl (E.2 1, 39, .inl (nA Nu))), (ae, .inl (E.2 1, 39, .inl (nA Ex))), (h1, .inr (3, [.ref aa, .ref ab, .ref ao, .ref ag, .ref ar, .int (nI sh), .int (nI rg)])), (ao, .inl (E.2 4, 4, .inr (.inr (.inr (.inr fo))))), (ag, .inl (E.2 4, 4, .inr (.inr (.inr (.inr fg))))), (ar, .inl (E.2 4, 32, .inr (.inr (.inr (.inr fr))))), (h2, .inr (1, [.ref a1, .ref a2, .int (nI n), .int (nI th)])), (a1, .inl (E.2 1, 12, .inl To)), (a2, .inl (E.2 1, 12, .inl Bo))] ++ poolC E ps) := hD
  refine lv_iconst (v := 0) hx hb dX0_gather_10 (by decide) ?_
  refine lv_istore_n (lv' := [(3, .int 0), (0, .ref h0), (1, .ref h1), (2, .ref h2)]) hx hb dX0_gather_11 rfl hl (by decide) rfl (fun ls hl => ?_)
  refine (fun (lp12 : ∀ (n9 : Nat) (i : Nat) (Nu : Nat → Nat) (Ex : Nat → Nat) (H : Heap) (locs : List Loc) (ls : Array Slot), (39 - i) < n9 → (i ≤ 39) → (RLs Nu (cds cov i)) → (RLs Ex ((cds cov i).map cov)) → va_P E.1 vwCl ([(h0, .inr (0, [.ref an, .ref ae, .ref af, .ref ac, .int (nI (cds cov i).length), .int (nI (orC cov i)), .int szz, .int ld])), (an, .inl (E.2 1, 39, .inl (nA Nu))), (ae, .inl (E.2 1, 39, .inl (nA Ex))), (h1, .inr (3, [.ref aa, .ref ab, .ref ao, .ref ag, .ref ar, .int (nI sh), .int (nI rg)])), (ao, .inl (E.2 4, 4, .inr (.inr (.inr (.inr fo))))), (ag, .inl (E.2 4, 4, .inr (.inr (.inr (.inr fg))))), (ar, .inl (E.2 4, 32, .inr (.inr (.inr (.inr fr))))), (h2, .inr (1, [.ref a1, .ref a2, .int (nI n), .int (nI th)])), (a1, .inl (E.2 1, 12, .inl To)), (a2, .inl (E.2 1, 12, .inl Bo))] ++ poolC E ps) H → va_D A ([(h0, .inr (0, [.ref an, .ref ae, .ref af, .ref ac, .int (nI (cds cov i).length), .int (nI (orC cov i)), .int szz, .int ld])), (an, .inl (E.2 1, 39, .inl (nA Nu))), (ae, .inl (E.2 1, 39, .inl (nA Ex))), (h1, .inr (3, [.ref aa, .ref ab, .ref ao, .ref ag, .ref ar, .int (nI sh), .int (nI rg)])), (ao, .inl (E.2 4, 4, .inr (.inr (.inr (.inr fo))))), (ag, .inl (E.2 4, 4, .inr (.inr (.inr (.inr fg))))), (ar, .inl (E.2 4, 32, .inr (.inr (.inr (.inr fr))))), (h2, .inr (1, [.ref a1, .ref a2, .int (nI n), .int (nI th)])), (a1, .inl (E.2 1, 12, .inl To)), (a2, .inl (E.2 1, 12, .inl Bo))] ++ poolC E ps) → va_S A s.heap H locs → lv_has ls 5 [(0, .ref h0), (1, .ref h1), (2, .ref h2), (3, .int (nI i))] → W p l e _ s m _ below meth c H locs _ _ _ (F0 m 12 ls [])) => lp12 (40) 0 Nu Ex _ _ _ (by omega) (by omega) (fun j h9 => absurd h9 (Nat.not_lt_zero j)) (fun j h9 => absurd h9 (Nat.not_lt_zero j)) (hP.part [0, 1, 2, 3, 4, 5, 6, 7, 8, 9] rfl) (hD.part [0, 1, 2, 3, 4, 5, 6, 7, 8, 9] (by decide) rfl) hS (lv_sub hl [1, 2, 3, 0] rfl)) ?_
  intro n12
  induction n12 with
  | zero => intro i Nu Ex H locs ls h0; exact absurd (by assumption) (Nat.not_lt_zero _)
  | succ n12 ih12 =>
    intro i Nu Ex H locs ls hmu12 hi hRN hRE hP hD hS hl
    have hcl := cds_len cov i
    refine lv_iload_n hx hb dX0_gather_12 rfl (lv_at hl 3 rfl) ?_
    refine lv_bipush (v := 39) hx hb dX0_gather_13 (by decide) ?_
    refine lv_icmp_ge (tgt := 98) hx hb dX0_gather_15 (by decide) (fun c_15 => ?_) (fun c_15 => ?_)
    · have c_15 : 39 ≤ i := (nI_leI (a := 39) (b := i) (by omega) (by omega)).mp c_15
      have e9 : ([(h0, .inr (0, [.ref an, .ref ae, .ref af, .ref ac, .int (nI (cds cov 39).length), .int (nI (orC cov 39)), .int szz, .int ld])), (an, .inl (E.2 1, 39, .inl (nA Nu))), (ae, .inl (E.2 1, 39, .inl (nA Ex))), (h1, .inr (3, [.ref aa, .ref ab, .ref ao, .ref ag, .ref ar, .int (nI sh), .int (nI rg)])), (ao, .inl (E.2 4, 4, .inr (.inr (.inr (.inr fo))))), (ag, .inl (E.2 4, 4, .inr (.inr (.inr (.inr fg))))), (ar, .inl (E.2 4, 32, .inr (.inr (.inr (.inr fr))))), (h2, .inr (1, [.ref a1, .ref a2, .int (nI n), .int (nI th)])), (a1, .inl (E.2 1, 12, .inl To)), (a2, .inl (E.2 1, 12, .inl Bo))] : va_W) = [(h0, .inr (0, [.ref an, .ref ae, .ref af, .ref ac, .int (nI (cds cov i).length), .int (nI (orC cov i)), .int szz, .int ld])), (an, .inl (E.2 1, 39, .inl (nA Nu))), (ae, .inl (E.2 1, 39, .inl (nA Ex))), (h1, .inr (3, [.ref aa, .ref ab, .ref ao, .ref ag, .ref ar, .int (nI sh), .int (nI rg)])), (ao, .inl (E.2 4, 4, .inr (.inr (.inr (.inr fo))))), (ag, .inl (E.2 4, 4, .inr (.inr (.inr (.inr fg))))), (ar, .inl (E.2 4, 32, .inr (.inr (.inr (.inr fr))))), (h2, .inr (1, [.ref a1, .ref a2, .int (nI n), .int (nI th)])), (a1, .inl (E.2 1, 12, .inl To)), (a2, .inl (E.2 1, 12, .inl Bo))] := by rw [show i = 39 by omega]
      have hP9 : va_P E.1 vwCl ([(h0, .inr (0, [.ref an, .ref ae, .ref af, .ref ac, .int (nI (cds cov 39).length), .int (nI (orC cov 39)), .int szz, .int ld])), (an, .inl (E.2 1, 39, .inl (nA Nu))), (ae, .inl (E.2 1, 39, .inl (nA Ex))), (h1, .inr (3, [.ref aa, .ref ab, .ref ao, .ref ag, .ref ar, .int (nI sh), .int (nI rg)])), (ao, .inl (E.2 4, 4, .inr (.inr (.inr (.inr fo))))), (ag, .inl (E.2 4, 4, .inr (.inr (.inr (.inr fg))))), (ar, .inl (E.2 4, 32, .inr (.inr (.inr (.inr fr))))), (h2, .inr (1, [.ref a1, .ref a2, .int (nI n), .int (nI th)])), (a1, .inl (E.2 1, 12, .inl To)), (a2, .inl (E.2 1, 12, .inl Bo))] ++ poolC E ps) H := by rw [e9]; exact hP.part [0, 1, 2, 3, 4, 5, 6, 7, 8, 9] rfl
      have hD9 : va_D A ([(h0, .inr (0, [.ref an, .ref ae, .ref af, .ref ac, .int (nI (cds cov 39).length), .int (nI (orC cov 39)), .int szz, .int ld])), (an, .inl (E.2 1, 39, .inl (nA Nu))), (ae, .inl (E.2 1, 39, .inl (nA Ex))), (h1, .inr (3, [.ref aa, .ref ab, .ref ao, .ref ag, .ref ar, .int (nI sh), .int (nI rg)])), (ao, .inl (E.2 4, 4, .inr (.inr (.inr (.inr fo))))), (ag, .inl (E.2 4, 4, .inr (.inr (.inr (.inr fg))))), (ar, .inl (E.2 4, 32, .inr (.inr (.inr (.inr fr))))), (h2, .inr (1, [.ref a1, .ref a2, .int (nI n), .int (nI th)])), (a1, .inl (E.2 1, 12, .inl To)), (a2, .inl (E.2 1, 12, .inl Bo))] ++ poolC E ps) := by rw [e9]; exact hD.part [0, 1, 2, 3, 4, 5, 6, 7, 8, 9] (by decide) rfl
      exact W.vret hx hb hr (fun t9 ht9 hW9 => ⟨⟨(Nu, Ex), rfl, by rw [show 39 = i by omega]; exact ⟨hRN, hRE⟩, ⟨by rw [ht9]; exact hP9, hD9⟩⟩, hS.F ht9⟩) hS.2.2 dX0_gather_98
    · have c_15 : ¬ 39 ≤ i := fun h9 => c_15 ((nI_leI (a := 39) (b := i) (by omega) (by omega)).mpr h9)
      refine lv_aload_n hx hb dX0_gather_18 rfl (lv_at hl 1 rfl) ?_
      refine lv_iload_n hx hb dX0_gather_19 rfl (lv_at hl 3 rfl) ?_
      refine rVq hE ⟨hx, hb, hml, hown, hts⟩ (c_X3_find l E h1 aa ab ao ag ar sh rg fo fg fr (nI i) (hs1) (hs4) (hr8)) (cwV 1 hts gX0_gather_X3_find rfl rfl rfl (by decide +kernel) ⟨Nat.le_of_ble_eq_true rfl, Nat.le_of_ble_eq_true rfl⟩) (hP.sub [3, 4, 5, 6] rfl) 0 3 rfl rfl rfl hl.1 rfl (Nat.le_of_ble_eq_true rfl) dX0_gather_20 ⟨(Nat.zero_le _), (Nat.zero_le _)⟩ ?_
      rcases Nat.lt_or_ge i (2 * sh - 1 + rg * 4) with hip | hip
      · obtain ⟨r, hr9, hf9, hp0, hp3, hc9⟩ := hPA.1 i hip
        obtain ⟨ra, ua, da, kd, se, pn, Fa, Fb⟩ := r
        dsimp only at hf9 hp0 hp3 hc9
        rw [hf9]
        refine W.eq (g2 := F0 m 23 ls [.ref ra]) rfl ?_
        refine lv_astore (lv' := [(4, .ref ra), (0, .ref h0), (1, .ref h1), (2, .ref h2), (3, .int (nI i))]) hx hb dX0_gather_23 hl (by decide) rfl (fun ls hl => ?_)
        refine lv_aload hx hb dX0_gather_25 (lv_at hl 0 rfl) ?_
        refine lv_ifnull hx hb dX0_gather_27 ?_
        refine lv_aload_n hx hb dX0_gather_30 rfl (lv_at hl 3 rfl) ?_
        refine lv_aload hx hb dX0_gather_31 (lv_at hl 0 rfl) ?_
        refine rVi hE ⟨hx, hb, hml, hown, hts⟩ (c_X1_allTonesSeen l E h2 a1 a2 n th To Bo ra kd se ua da pn (lA Fa) (lA Fb) (hn) (hth) (hp3)) (cwV 1 hts gX0_gather_X1_allTonesSeen rfl rfl rfl (by decide +kernel) ⟨Nat.le_of_ble_eq_true rfl, Nat.le_of_ble_eq_true rfl⟩) ((hP.sub [7, 8, 9] rfl).app (poolP hP hr9)) 0 1 rfl rfl rfl hl.1 rfl (Nat.le_of_ble_eq_true rfl) dX0_gather_33 ⟨(Nat.zero_le _), (Nat.zero_le _)⟩ ?_
        refine lv_if_eq (tgt := 92) hx hb dX0_gather_36 (by decide) (fun c_36 => ?_) (fun c_36 => ?_)
        · have c_36 := ite1_0 c_36
          refine lv_iinc (v := nI (i + 1)) (lv' := [(3, .int (nI (i + 1))), (4, .ref ra), (0, .ref h0), (1, .ref h1), (2, .ref h2)]) hx hb dX0_gather_92 hl (k := 4) rfl (nI_add i 1) (by decide) rfl (fun ls hl => ?_)
          refine lv_goto (tgt := 12) hx hb dX0_gather_95 (by decide) ?_
          have hcz : cov i = 0 := by first | exact hc9 | (rw [hc9, covP]; exact if_neg c_36)
          have e9c : cds cov (i + 1) = cds cov i := by rw [cds, if_pos hcz]
          have e9o : orC cov (i + 1) = orC cov i := by rw [orC, hcz, Nat.or_zero]
          exact ih12 (i + 1) Nu Ex _ _ _ (by omega) (by omega) (by rw [e9c]; exact hRN) (by rw [e9c]; exact hRE) (by rw [e9c, e9o]; exact hP.part [0, 1, 2, 3, 4, 5, 6, 7, 8, 9] rfl) (by rw [e9c, e9o]; exact hD.part [0, 1, 2, 3, 4, 5, 6, 7, 8, 9] (by decide) rfl) hS (lv_sub hl [2, 3, 4, 0] rfl)
        · have c_36 := ite1_1 c_36
          refine lv_aload_n hx hb dX0_gather_39 rfl (lv_at hl 1 rfl) ?_
          refine va_get (D := E.1) (ci := 0) (v := .ref an) (C := RX0) (T := TX0) (N := 8) hx hb hts hinX0 hown hK hP 0 rfl rfl 0 (by decide) (hts (.fieldLink RX0 9 "WornRings$Heap" "numbers" "[I") (by decide +kernel)) (fun _ h9 => h9) rfl dX0_gather_40 ?_
          refine lv_aload_n hx hb dX0_gather_43 rfl (lv_at hl 1 rfl) ?_
          refine va_get (D := E.1) (ci := 0) (v := .int (nI (cds cov i).length)) (C := RX0) (T := TX0) (N := 8) hx hb hts hinX0 hown hK hP 0 rfl rfl 4 (by decide) (hts (.fieldLink RX0 39 "WornRings$Heap" "candidates" "I") (by decide +kernel)) (fun _ h9 => h9) rfl dX0_gather_44 ?_
          refine lv_iload_n hx hb dX0_gather_47 rfl (lv_at hl 4 rfl) ?_
          refine va_iast hx hb hK hP hD hS 1 1 rfl rfl (vp_in_nI (by omega) (by omega)) dX0_gather_48 (fun H locs hP hD hS => ?_)
          rw [nI_clamp (n := (cds cov i).length) (by omega)] at hP hD
          rw [show upd (nA Nu) ((cds cov i).length) (nI i) = nA (updN Nu ((cds cov i).length) i) from upd_nA _ _ _] at hP hD
          have hP : va_P E.1 vwCl ([(h0, .inr (0, [.ref an, .ref ae, .ref af, .ref ac, .int (nI (cds cov i).length), .int (nI (orC cov i)), .int szz, .int ld])), (an, .inl (E.2 1, 39, .inl (nA (updN Nu ((cds cov i).length) i)))), (ae, .inl (E.2 1, 39, .inl (nA Ex))), (h1, .inr (3, [.ref aa, .ref ab, .ref ao, .ref ag, .ref ar, .int (nI sh), .int (nI rg)])), (ao, .inl (E.2 4, 4, .inr (.inr (.inr (.inr fo))))), (ag, .inl (E.2 4, 4, .inr (.inr (.inr (.inr fg))))), (ar, .inl (E.2 4, 32, .inr (.inr (.inr (.inr fr))))), (h2, .inr (1, [.ref a1, .ref a2, .int (nI n), .int (nI th)])), (a1, .inl (E.2 1, 12, .inl To)), (a2, .inl (E.2 1, 12, .inl Bo))] ++ poolC E ps) H := hP
          have hD : va_D A ([(h0, .inr (0, [.ref an, .ref ae, .ref af, .ref ac, .int (nI (cds cov i).length), .int (nI (orC cov i)), .int szz, .int ld])), (an, .inl (E.2 1, 39, .inl (nA (updN Nu ((cds cov i).length) i)))), (ae, .inl (E.2 1, 39, .inl (nA Ex))), (h1, .inr (3, [.ref aa, .ref ab, .ref ao, .ref ag, .ref ar, .int (nI sh), .int (nI rg)])), (ao, .inl (E.2 4, 4, .inr (.inr (.inr (.inr fo))))), (ag, .inl (E.2 4, 4, .inr (.inr (.inr (.inr fg))))), (ar, .inl (E.2 4, 32, .inr (.inr (.inr (.inr fr))))), (h2, .inr (1, [.ref a1, .ref a2, .int (nI n), .int (nI th)])), (a1, .inl (E.2 1, 12, .inl To)), (a2, .inl (E.2 1, 12, .inl Bo))] ++ poolC E ps) := hD
          refine lv_aload_n hx hb dX0_gather_49 rfl (lv_at hl 1 rfl) ?_
          refine va_get (D := E.1) (ci := 0) (v := .ref ae) (C := RX0) (T := TX0) (N := 8) hx hb hts hinX0 hown hK hP 0 rfl rfl 1 (by decide) (hts (.fieldLink RX0 15 "WornRings$Heap" "explained" "[I") (by decide +kernel)) (fun _ h9 => h9) rfl dX0_gather_50 ?_
          refine lv_aload_n hx hb dX0_gather_53 rfl (lv_at hl 1 rfl) ?_
          refine va_get (D := E.1) (ci := 0) (v := .int (nI (cds cov i).length)) (C := RX0) (T := TX0) (N := 8) hx hb hts hinX0 hown hK hP 0 rfl rfl 4 (by decide) (hts (.fieldLink RX0 39 "WornRings$Heap" "candidates" "I") (by decide +kernel)) (fun _ h9 => h9) rfl dX0_gather_54 ?_
          refine lv_aload_n hx hb dX0_gather_57 rfl (lv_at hl 3 rfl) ?_
          refine lv_aload hx hb dX0_gather_58 (lv_at hl 0 rfl) ?_
          refine rVi hE ⟨hx, hb, hml, hown, hts⟩ (c_X1_explainedBy l E h2 a1 a2 n th To Bo ra kd se ua da pn (lA Fa) (lA Fb) (hn) (hth) (hp3)) (cwV 1 hts gX0_gather_X1_explainedBy rfl rfl rfl (by decide +kernel) ⟨Nat.le_of_ble_eq_true rfl, Nat.le_of_ble_eq_true rfl⟩) ((hP.sub [7, 8, 9] rfl).app (poolP hP hr9)) 0 1 rfl rfl rfl hl.1 rfl (Nat.le_of_ble_eq_true rfl) dX0_gather_60 ⟨(Nat.zero_le _), (Nat.zero_le _)⟩ ?_
          have hce : cov i = expN To Bo th n (lA Fa) (lA Fb) pn := by rw [hc9, covP]; exact if_pos c_36
          have hne : ¬ expN To Bo th n (lA Fa) (lA Fb) pn = 0 := exp_pos pn hp0 c_36
          rw [← hce]
          refine va_iast hx hb hK hP hD hS 2 1 rfl rfl (vp_in_nI (by omega) (by omega)) dX0_gather_63 (fun H locs hP hD hS => ?_)
          rw [nI_clamp (n := (cds cov i).length) (by omega)] at hP hD
          rw [show upd (nA Ex) ((cds cov i).length) (nI (cov i)) = nA (updN Ex ((cds cov i).length) (cov i)) from upd_nA _ _ _] at hP hD
          have hP : va_P E.1 vwCl ([(h0, .inr (0, [.ref an, .ref ae, .ref af, .ref ac, .int (nI (cds cov i).length), .int (nI (orC cov i)), .int szz, .int ld])), (an, .inl (E.2 1, 39, .inl (nA (updN Nu ((cds cov i).length) i)))), (ae, .inl (E.2 1, 39, .inl (nA (updN Ex ((cds cov i).length) (cov i))))), (h1, .inr (3, [.ref aa, .ref ab, .ref ao, .ref ag, .ref ar, .int (nI sh), .int (nI rg)])), (ao, .inl (E.2 4, 4, .inr (.inr (.inr (.inr fo))))), (ag, .inl (E.2 4, 4, .inr (.inr (.inr (.inr fg))))), (ar, .inl (E.2 4, 32, .inr (.inr (.inr (.inr fr))))), (h2, .inr (1, [.ref a1, .ref a2, .int (nI n), .int (nI th)])), (a1, .inl (E.2 1, 12, .inl To)), (a2, .inl (E.2 1, 12, .inl Bo))] ++ poolC E ps) H := hP
          have hD : va_D A ([(h0, .inr (0, [.ref an, .ref ae, .ref af, .ref ac, .int (nI (cds cov i).length), .int (nI (orC cov i)), .int szz, .int ld])), (an, .inl (E.2 1, 39, .inl (nA (updN Nu ((cds cov i).length) i)))), (ae, .inl (E.2 1, 39, .inl (nA (updN Ex ((cds cov i).length) (cov i))))), (h1, .inr (3, [.ref aa, .ref ab, .ref ao, .ref ag, .ref ar, .int (nI sh), .int (nI rg)])), (ao, .inl (E.2 4, 4, .inr (.inr (.inr (.inr fo))))), (ag, .inl (E.2 4, 4, .inr (.inr (.inr (.inr fg))))), (ar, .inl (E.2 4, 32, .inr (.inr (.inr (.inr fr))))), (h2, .inr (1, [.ref a1, .ref a2, .int (nI n), .int (nI th)])), (a1, .inl (E.2 1, 12, .inl To)), (a2, .inl (E.2 1, 12, .inl Bo))] ++ poolC E ps) := hD
          refine lv_aload_n hx hb dX0_gather_64 rfl (lv_at hl 1 rfl) ?_
          refine lv_dup hx hb dX0_gather_65 rfl ?_
          refine va_get (D := E.1) (ci := 0) (v := .int (nI (orC cov i))) (C := RX0) (T := TX0) (N := 8) hx hb hts hinX0 hown hK hP 0 rfl rfl 5 (by decide) (hts (.fieldLink RX0 43 "WornRings$Heap" "together" "I") (by decide +kernel)) (fun _ h9 => h9) rfl dX0_gather_66 ?_
          refine lv_aload_n hx hb dX0_gather_69 rfl (lv_at hl 1 rfl) ?_
          refine va_get (D := E.1) (ci := 0) (v := .ref ae) (C := RX0) (T := TX0) (N := 8) hx hb hts hinX0 hown hK hP 0 rfl rfl 1 (by decide) (hts (.fieldLink RX0 15 "WornRings$Heap" "explained" "[I") (by decide +kernel)) (fun _ h9 => h9) rfl dX0_gather_70 ?_
          refine lv_aload_n hx hb dX0_gather_73 rfl (lv_at hl 1 rfl) ?_
          refine va_get (D := E.1) (ci := 0) (v := .int (nI (cds cov i).length)) (C := RX0) (T := TX0) (N := 8) hx hb hts hinX0 hown hK hP 0 rfl rfl 4 (by decide) (hts (.fieldLink RX0 39 "WornRings$Heap" "candidates" "I") (by decide +kernel)) (fun _ h9 => h9) rfl dX0_gather_74 ?_
          refine va_iald hx hb hK hP 2 1 rfl rfl (vp_in_nI (by omega) (by omega)) dX0_gather_77 ?_
          rw [nI_clamp (n := (cds cov i).length) (by omega)]
          refine W.eq (g2 := F0 m 78 ls [.int (nI ((updN Ex ((cds cov i).length) (cov i)) ((cds cov i).length))), .int (nI (orC cov i)), .ref h0]) rfl ?_
          refine lv_ior hx hb dX0_gather_78 ?_
          rw [show ((nI (orC cov i)) ||| (nI ((updN Ex ((cds cov i).length) (cov i)) ((cds cov i).length))) : Int32) = nI (orC cov i ||| cov i) from by rw [updN_s]; exact xx_or _ _]
          refine va_put (D := E.1) (ci := 0) (v := .int (nI (orC cov i ||| cov i))) (ty := .int) (C := RX0) (T := TX0) (N := 8) hx hb hts hinX0 tyX0 tyX0_ok nmX0 hown hK hP hD hS 0 rfl rfl 5 (by decide) (hts (.fieldLink RX0 43 "WornRings$Heap" "together" "I") (by decide +kernel)) (fun _ h9 => h9) rfl (by decide +kernel) (rfl) (rfl) (Nat.le_of_ble_eq_true rfl) dX0_gather_79 (fun H locs hP hD hS => ?_)
          have hP : va_P E.1 vwCl ([(h0, .inr (0, [.ref an, .ref ae, .ref af, .ref ac, .int (nI (cds cov i).length), .int (nI (orC cov i ||| cov i)), .int szz, .int ld])), (an, .inl (E.2 1, 39, .inl (nA (updN Nu ((cds cov i).length) i)))), (ae, .inl (E.2 1, 39, .inl (nA (updN Ex ((cds cov i).length) (cov i))))), (h1, .inr (3, [.ref aa, .ref ab, .ref ao, .ref ag, .ref ar, .int (nI sh), .int (nI rg)])), (ao, .inl (E.2 4, 4, .inr (.inr (.inr (.inr fo))))), (ag, .inl (E.2 4, 4, .inr (.inr (.inr (.inr fg))))), (ar, .inl (E.2 4, 32, .inr (.inr (.inr (.inr fr))))), (h2, .inr (1, [.ref a1, .ref a2, .int (nI n), .int (nI th)])), (a1, .inl (E.2 1, 12, .inl To)), (a2, .inl (E.2 1, 12, .inl Bo))] ++ poolC E ps) H := hP
          have hD : va_D A ([(h0, .inr (0, [.ref an, .ref ae, .ref af, .ref ac, .int (nI (cds cov i).length), .int (nI (orC cov i ||| cov i)), .int szz, .int ld])), (an, .inl (E.2 1, 39, .inl (nA (updN Nu ((cds cov i).length) i)))), (ae, .inl (E.2 1, 39, .inl (nA (updN Ex ((cds cov i).length) (cov i))))), (h1, .inr (3, [.ref aa, .ref ab, .ref ao, .ref ag, .ref ar, .int (nI sh), .int (nI rg)])), (ao, .inl (E.2 4, 4, .inr (.inr (.inr (.inr fo))))), (ag, .inl (E.2 4, 4, .inr (.inr (.inr (.inr fg))))), (ar, .inl (E.2 4, 32, .inr (.inr (.inr (.inr fr))))), (h2, .inr (1, [.ref a1, .ref a2, .int (nI n), .int (nI th)])), (a1, .inl (E.2 1, 12, .inl To)), (a2, .inl (E.2 1, 12, .inl Bo))] ++ poolC E ps) := hD
          refine lv_aload_n hx hb dX0_gather_82 rfl (lv_at hl 1 rfl) ?_
          refine lv_dup hx hb dX0_gather_83 rfl ?_
          refine va_get (D := E.1) (ci := 0) (v := .int (nI (cds cov i).length)) (C := RX0) (T := TX0) (N := 8) hx hb hts hinX0 hown hK hP 0 rfl rfl 4 (by decide) (hts (.fieldLink RX0 39 "WornRings$Heap" "candidates" "I") (by decide +kernel)) (fun _ h9 => h9) rfl dX0_gather_84 ?_
          refine lv_iconst (v := 1) hx hb dX0_gather_87 (by decide) ?_
          refine lv_iadd hx hb dX0_gather_88 ?_
          rw [show ((nI (cds cov i).length) + (1 : Int32) : Int32) = nI (((cds cov i).length) + 1) from nI_add ((cds cov i).length) 1]
          refine va_put (D := E.1) (ci := 0) (v := .int (nI (((cds cov i).length) + 1))) (ty := .int) (C := RX0) (T := TX0) (N := 8) hx hb hts hinX0 tyX0 tyX0_ok nmX0 hown hK hP hD hS 0 rfl rfl 4 (by decide) (hts (.fieldLink RX0 39 "WornRings$Heap" "candidates" "I") (by decide +kernel)) (fun _ h9 => h9) rfl (by decide +kernel) (rfl) (rfl) (Nat.le_of_ble_eq_true rfl) dX0_gather_89 (fun H locs hP hD hS => ?_)
          have hP : va_P E.1 vwCl ([(h0, .inr (0, [.ref an, .ref ae, .ref af, .ref ac, .int (nI (((cds cov i).length) + 1)), .int (nI (orC cov i ||| cov i)), .int szz, .int ld])), (an, .inl (E.2 1, 39, .inl (nA (updN Nu ((cds cov i).length) i)))), (ae, .inl (E.2 1, 39, .inl (nA (updN Ex ((cds cov i).length) (cov i))))), (h1, .inr (3, [.ref aa, .ref ab, .ref ao, .ref ag, .ref ar, .int (nI sh), .int (nI rg)])), (ao, .inl (E.2 4, 4, .inr (.inr (.inr (.inr fo))))), (ag, .inl (E.2 4, 4, .inr (.inr (.inr (.inr fg))))), (ar, .inl (E.2 4, 32, .inr (.inr (.inr (.inr fr))))), (h2, .inr (1, [.ref a1, .ref a2, .int (nI n), .int (nI th)])), (a1, .inl (E.2 1, 12, .inl To)), (a2, .inl (E.2 1, 12, .inl Bo))] ++ poolC E ps) H := hP
          have hD : va_D A ([(h0, .inr (0, [.ref an, .ref ae, .ref af, .ref ac, .int (nI (((cds cov i).length) + 1)), .int (nI (orC cov i ||| cov i)), .int szz, .int ld])), (an, .inl (E.2 1, 39, .inl (nA (updN Nu ((cds cov i).length) i)))), (ae, .inl (E.2 1, 39, .inl (nA (updN Ex ((cds cov i).length) (cov i))))), (h1, .inr (3, [.ref aa, .ref ab, .ref ao, .ref ag, .ref ar, .int (nI sh), .int (nI rg)])), (ao, .inl (E.2 4, 4, .inr (.inr (.inr (.inr fo))))), (ag, .inl (E.2 4, 4, .inr (.inr (.inr (.inr fg))))), (ar, .inl (E.2 4, 32, .inr (.inr (.inr (.inr fr))))), (h2, .inr (1, [.ref a1, .ref a2, .int (nI n), .int (nI th)])), (a1, .inl (E.2 1, 12, .inl To)), (a2, .inl (E.2 1, 12, .inl Bo))] ++ poolC E ps) := hD
          refine lv_iinc (v := nI (i + 1)) (lv' := [(3, .int (nI (i + 1))), (4, .ref ra), (0, .ref h0), (1, .ref h1), (2, .ref h2)]) hx hb dX0_gather_92 hl (k := 4) rfl (nI_add i 1) (by decide) rfl (fun ls hl => ?_)
          refine lv_goto (tgt := 12) hx hb dX0_gather_95 (by decide) ?_
          have e9c : cds cov (i + 1) = cds cov i ++ [i] := by rw [cds, if_neg (by rw [hce]; exact hne)]
          have e9o : orC cov (i + 1) = orC cov i ||| cov i := rfl
          exact ih12 (i + 1) (updN Nu (cds cov i).length i) (updN Ex (cds cov i).length (cov i)) _ _ _ (by omega) (by omega) (by rw [e9c]; exact RLs_push hRN) (by
        rw [e9c, List.map_append]
        have h6 := RLs_push (x := cov i) hRE
        rw [List.length_map] at h6; exact h6) (by rw [e9c, e9o, List.length_append]; exact hP.part [0, 1, 2, 3, 4, 5, 6, 7, 8, 9] rfl) (by rw [e9c, e9o, List.length_append]; exact hD.part [0, 1, 2, 3, 4, 5, 6, 7, 8, 9] (by decide) rfl) hS (lv_sub hl [2, 3, 4, 0] rfl)
      · have hc9 := hPA.2.1 i hip
        rw [fFind_out (Or.inr (nI_le hip (by omega)))]
        refine W.eq (g2 := F0 m 23 ls [.null]) rfl ?_
        refine lv_astoreN (lv' := [(4, .null), (0, .ref h0), (1, .ref h1), (2, .ref h2), (3, .int (nI i))]) hx hb dX0_gather_23 hl (by decide) rfl (fun ls hl => ?_)
        refine lv_aloadN hx hb dX0_gather_25 (lv_at hl 0 rfl) ?_
        refine lv_ifnullN (tgt := 92) hx hb dX0_gather_27 (by decide) ?_
        refine lv_iinc (v := nI (i + 1)) (lv' := [(3, .int (nI (i + 1))), (4, .null), (0, .ref h0), (1, .ref h1), (2, .ref h2)]) hx hb dX0_gather_92 hl (k := 4) rfl (nI_add i 1) (by decide) rfl (fun ls hl => ?_)
        refine lv_goto (tgt := 12) hx hb dX0_gather_95 (by decide) ?_
        have hcz : cov i = 0 := by first | exact hc9 | (rw [hc9, covP]; exact if_neg c_36)
        have e9c : cds cov (i + 1) = cds cov i := by rw [cds, if_pos hcz]
        have e9o : orC cov (i + 1) = orC cov i := by rw [orC, hcz, Nat.or_zero]
        exact ih12 (i + 1) Nu Ex _ _ _ (by omega) (by omega) (by rw [e9c]; exact hRN) (by rw [e9c]; exact hRE) (by rw [e9c, e9o]; exact hP.part [0, 1, 2, 3, 4, 5, 6, 7, 8, 9] rfl) (by rw [e9c, e9o]; exact hD.part [0, 1, 2, 3, 4, 5, 6, 7, 8, 9] (by decide) rfl) hS (lv_sub hl [2, 3, 4, 0] rfl)
