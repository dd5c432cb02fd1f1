/-! rows for the law's steps -/
theorem inR {x lo hi : Int32} {A B : Nat} (ea : lo.toInt = A) (eb : hi.toInt = B) (h : lo ≤ x ∧ x ≤ hi) : ∃ y : Nat, A ≤ y ∧ y ≤ B ∧ x = nI y := by
  have h1 := Int32.le_iff_toInt_le.mp h.1
  have h2 := Int32.le_iff_toInt_le.mp h.2
  have h3 : ¬ x < 0 := by
    intro h9
    have h8 := Int32.lt_iff_toInt_lt.mp h9
    have : (0 : Int32).toInt = 0 := rfl
    omega
  obtain ⟨j, hj, e⟩ := nI_of h3
  have e2 := nI_toInt hj
  rw [← e] at e2
  exact ⟨j, by omega, by omega, e⟩
theorem inK {x : Int32} (h : 0 ≤ x ∧ x ≤ 3) : ∃ y : Nat, y < 4 ∧ x = nI y := by
  obtain ⟨y, -, h2, e⟩ := inR (A := 0) (B := 3) rfl rfl h
  exact ⟨y, by omega, e⟩
theorem inS {x : Int32} {n : Nat} (h1 : 1 ≤ n) (hn : n ≤ 1000) (h : 0 ≤ x ∧ x ≤ nI (n - 1)) : ∃ y : Nat, y < n ∧ x = nI y := by
  obtain ⟨y, -, h2, e⟩ := inR (A := 0) (B := n - 1) rfl (nI_toInt (by omega)) h
  exact ⟨y, by omega, e⟩
theorem inL {x : Int32} {n : Nat} (hn : n ≤ 1000) (h : 0 ≤ x ∧ x ≤ nI n - 1) : ∃ y : Nat, y < n ∧ x = nI y := by
  have h1 := Int32.le_iff_toInt_le.mp h.1
  have h2 := Int32.le_iff_toInt_le.mp h.2
  have e1 : (nI n - 1).toInt = (n : Int) - 1 := pk_sub_toInt (a := n) (b := 1) (by omega) (by omega)
  have e0 : (0 : Int32).toInt = 0 := rfl
  have h3 : ¬ x < 0 := by
    intro h9
    have h8 := Int32.lt_iff_toInt_lt.mp h9
    omega
  obtain ⟨j, hj, e⟩ := nI_of h3
  have e2 := nI_toInt hj
  rw [← e] at e2
  exact ⟨j, by omega, e⟩
theorem pw2c {u a i sh : Nat} (hu : u ≤ 200 ^ i) (ha : a ≤ 200) (hi : i < sh) : u * a ≤ 200 ^ sh :=
  Nat.le_trans (Nat.mul_le_mul hu ha) (Nat.le_trans (Nat.le_of_eq (Nat.pow_succ 200 i).symm) (Nat.pow_le_pow_right (by omega) hi))
theorem ModM_shaft {sh rg : Nat} {U V Te Si Ba Sm Gr : Nat → Nat} {y a b : Nat} (h : ModM sh rg U V Te Si Ba Sm Gr) (h4 : sh < 4) (hy : y < sh) (ha1 : 5 ≤ a) (ha2 : a ≤ 200) (hb1 : 5 ≤ b) (hb2 : b ≤ 200) : ModM (sh + 1) rg (updN U sh (tA (U y * a) (V y * b))) (updN V sh (tB (U y * a) (V y * b))) (updN Te sh b) Si Ba Sm Gr := by
  obtain ⟨⟨h1, -, h8⟩, hU, hV, hT, hR⟩ := h
  have u := hU y hy
  have v := hV y hy
  refine ⟨⟨by omega, by omega, h8⟩, fun i hi => ?_, fun i hi => ?_, fun i hi1 hi => ?_, fun r hr => ⟨?_, (hR r hr).2⟩⟩
  · by_cases e : i = sh
    · subst e; rw [updN_s]; exact tA_bd (Nat.mul_pos u.1 (by omega)) (pw2c u.2 ha2 hy)
    · rw [updN_n e]; exact hU i (by omega)
  · by_cases e : i = sh
    · subst e; rw [updN_s]; exact tB_bd (Nat.mul_pos v.1 (by omega)) (pw2c v.2 hb2 hy)
    · rw [updN_n e]; exact hV i (by omega)
  · by_cases e : i = sh
    · subst e; rw [updN_s]; exact ⟨hb1, hb2⟩
    · rw [updN_n e]; exact hT i hi1 (by omega)
  · have := (hR r hr).1; omega
theorem ModM_ring {sh rg : Nat} {U V Te Si Ba Sm Gr : Nat → Nat} {y bl pp qq : Nat} (h : ModM sh rg U V Te Si Ba Sm Gr) (h8 : rg < 8) (hy : y < sh) (hb1 : 3 ≤ bl) (hb2 : bl ≤ 30) (hp1 : 1 ≤ pp) (hpq : pp < qq) (hq2 : qq ≤ 100) : ModM sh (rg + 1) U V Te (updN Si rg y) (updN Ba rg bl) (updN Sm rg pp) (updN Gr rg qq) := by
  obtain ⟨⟨h1, h4, -⟩, hU, hV, hT, hR⟩ := h
  refine ⟨⟨h1, h4, by omega⟩, hU, hV, hT, fun r hr => ?_⟩
  by_cases e : r = rg
  · subst e; rw [updN_s, updN_s, updN_s, updN_s]; exact ⟨hy, ⟨hb1, hb2⟩, hp1, hpq, hq2⟩
  · rw [updN_n e, updN_n e, updN_n e, updN_n e]; exact hR r (by omega)
theorem Rel.mk120 {z : ZT} (hr : Rel z) : z.L.length ≤ 120 ∧ (∀ j, j + 1 < z.L.length → z.M j < z.M (j + 1)) ∧ (∀ j, j < z.L.length → z.M j ≤ 1000000) ∧ (2 ≤ z.L.length → z.L.length < 120 → 0 < z.k ∧ z.M (z.L.length - 1) = z.lt) := by
  obtain ⟨i1, i2, i3, i4, i5, i6⟩ := adAll_inv z.k hr.hti
  rw [← hr.hL] at i1 i2 i3 i4 i5 i6
  have hR := hr.hR
  have kp : 0 < z.L.length → 0 < z.k := fun h => by
    rcases Nat.eq_zero_or_pos z.k with e | e
    · have := i5 (by omega); omega
    · exact e
  refine ⟨i2, fun j hj => ?_, fun j hj => ?_, fun h2 h12 => ?_⟩
  · rw [hR j (by omega), hR (j + 1) hj]; exact SPw_lt i1 (Nat.lt_succ_self j) hj
  · rw [hR j hj]
    have h9 := kp (by omega)
    exact Nat.le_trans (i3 h9 _ (getD_mem hj)) (hr.htb _ (by omega))
  · have h9 := kp (by omega)
    refine ⟨h9, ?_⟩
    rw [hR _ (by omega), hr.hla h9]
    exact (i4 h12 h9).2
theorem perm_N (a n b c : va_W) : ((a ++ n) ++ (b ++ c)).Perm (b ++ (a ++ (n ++ c))) := by
  have h := perm_swap3 (a ++ n) b c
  rw [List.append_assoc a n c] at h
  exact h
theorem sA_congr {f g : Nat → Int32} {o a : Nat} : ∀ n, (∀ j, j < n → f j = g j) → sA f o a n = sA g o a n
  | 0, _ => rfl
  | n + 1, h => by simp only [sA]; rw [sA_congr n (fun j hj => h j (by omega)), h n (by omega)]
theorem fSt_congr {f g : Nat → Int32} {o : Nat} (h : ∀ j, j < 32 → f j = g j) : fSt f o = fSt g o := by
  unfold fSt; rw [sA_congr 32 h, sA_congr 32 h]
theorem clamp_lt {x hi : Int32} {n : Nat} (e : hi.toInt < n) (h : 0 ≤ x ∧ x ≤ hi) : x.toNatClampNeg < n := by
  have h1 := Int32.le_iff_toInt_le.mp h.1
  have h2 := Int32.le_iff_toInt_le.mp h.2
  have e0 : (0 : Int32).toInt = 0 := rfl
  have : (x.toNatClampNeg : Int) = x.toInt := Int.toNat_of_nonneg (by omega)
  omega
section FN
variable {p : Program} {l : Launch} {e : Env} {s : State} {m : MethodId} {below : List Frame} {meth : Method} {c : Code} {b L : Nat} {xs : Nat → Int32} {E : EnvT} {tq : Nat} {H : Heap} {locs : List Loc} {cells slots : Nat} {Q : State → Prop} {ls : Array Slot} {pc : Nat}
theorem finI {r r' : Int32} {off : Int} {c1 s1 : Nat} (C : LC p s m c b L xs E tq) (he : r = r') (d : decode code pc = .ok (.if_icmp .eq off, 3)) (ht : (pc : Int) + off = ((954 : Nat) : Int)) (h1 : c1 ≤ cells + 12) (h2 : s1 ≤ slots + 44)
    (kk : W p l e room_1 s m #[Value.ref b] below meth c H locs (cells + 12) (slots + 44) Q (F0 m 954 ls [])) : W p l e room_1 s m #[Value.ref b] below meth c H locs c1 s1 Q (F0 m pc ls (.int r' :: .int r :: [])) :=
  lv_icmp_eq (tgt := 954) C.hx C.hb d ht (fun _ => W.widen h1 h2 kk) (fun h => absurd he h)
theorem finL {r r' : Int64} {off : Int} {c1 s1 : Nat} (C : LC p s m c b L xs E tq) (he : r = r') (d0 : decode code pc = .ok (.lcmp, 1)) (d : decode code (pc + 1) = .ok (.ifCond .eq off, 3)) (ht : ((pc + 1 : Nat) : Int) + off = ((954 : Nat) : Int)) (h1 : c1 ≤ cells + 12) (h2 : s1 ≤ slots + 44)
    (kk : W p l e room_1 s m #[Value.ref b] below meth c H locs (cells + 12) (slots + 44) Q (F0 m 954 ls [])) : W p l e room_1 s m #[Value.ref b] below meth c H locs c1 s1 Q (F0 m pc ls (.long r' :: .long r :: [])) := by
  refine W.lcmp C.hx C.hb d0 ?_
  exact lv_if_eq (tgt := 954) C.hx C.hb d ht (fun _ => W.widen h1 h2 kk) (fun h => absurd ((lg_cmp_eq r r').mpr he) h)
theorem finNI {v : Value} {off : Int} {c1 s1 : Nat} (C : LC p s m c b L xs E tq) (hv : v.category = 1) (d0 : decode code pc = .ok (.pop, 1)) (d : decode code (pc + 1) = .ok (.goto off, 3)) (ht : ((pc + 1 : Nat) : Int) + off = ((954 : Nat) : Int)) (h1 : c1 ≤ cells + 12) (h2 : s1 ≤ slots + 44)
    (kk : W p l e room_1 s m #[Value.ref b] below meth c H locs (cells + 12) (slots + 44) Q (F0 m 954 ls [])) : W p l e room_1 s m #[Value.ref b] below meth c H locs c1 s1 Q (F0 m pc ls (v :: [])) := by
  refine lv_pop C.hx C.hb d0 hv ?_
  refine lv_goto (tgt := 954) C.hx C.hb d ht ?_
  exact W.widen h1 h2 kk
theorem finNL {v : Value} {off : Int} {c1 s1 : Nat} (C : LC p s m c b L xs E tq) (hv : v.category = 2) (d0 : decode code pc = .ok (.pop2, 1)) (d : decode code (pc + 1) = .ok (.goto off, 3)) (ht : ((pc + 1 : Nat) : Int) + off = ((954 : Nat) : Int)) (h1 : c1 ≤ cells + 12) (h2 : s1 ≤ slots + 44)
    (kk : W p l e room_1 s m #[Value.ref b] below meth c H locs (cells + 12) (slots + 44) Q (F0 m 954 ls [])) : W p l e room_1 s m #[Value.ref b] below meth c H locs c1 s1 Q (F0 m pc ls (v :: [])) := by
  refine lv_pop2_2 C.hx C.hb d0 hv ?_
  refine lv_goto (tgt := 954) C.hx C.hb d ht ?_
  exact W.widen h1 h2 kk
theorem finNIF {v : Value} {c1 s1 : Nat} (C : LC p s m c b L xs E tq) (hv : v.category = 1) (d0 : decode code pc = .ok (.pop, 1)) (h1 : c1 ≤ cells + 12) (h2 : s1 ≤ slots + 44)
    (kk : W p l e room_1 s m #[Value.ref b] below meth c H locs (cells + 12) (slots + 44) Q (F0 m (pc + 1) ls [])) : W p l e room_1 s m #[Value.ref b] below meth c H locs c1 s1 Q (F0 m pc ls (v :: [])) := by
  refine lv_pop C.hx C.hb d0 hv ?_
  exact W.widen h1 h2 kk
end FN
theorem nor {a b c : Prop} (h : ¬ (a ∧ b)) (hb : ¬ b → c) : ¬ a ∨ c := (Classical.em a).elim (fun ha => Or.inr (hb fun h9 => h ⟨ha, h9⟩)) Or.inl
theorem nI_s1 {q : Nat} (h : 1 ≤ q) : nI q - 1 = nI (q - 1) := pk_sub h
theorem ite_at {α : Type} {P : Prop} [Decidable P] {a b c : α} (h : P → a = b) : (if P then a else c) = if P then b else c := by
  by_cases h9 : P
  · rw [if_pos h9, if_pos h9, h h9]
  · rw [if_neg h9, if_neg h9]
theorem ite_iff {α : Type} {P Q : Prop} [Decidable P] [Decidable Q] {a b : α} (h : P ↔ Q) : (if P then a else b) = if Q then a else b := by
  by_cases h9 : P
  · rw [if_pos h9, if_pos (h.mp h9)]
  · rw [if_neg h9, if_neg (fun h8 => h9 (h.mpr h8))]
theorem part_ans {wt A B C D : Int32} : (if 0 ≤ wt ∧ wt ≤ 2 then (if wt = 0 then A else if wt = 1 then B else C) else D) = if wt = 0 then A else if wt = 1 then B else if wt = 2 then C else D := by
  by_cases h : 0 ≤ wt ∧ wt ≤ 2
  · rw [if_pos h]
    obtain ⟨y, -, h2, rfl⟩ := inR (A := 0) (B := 2) rfl rfl h
    rcases (show y = 0 ∨ y = 1 ∨ y = 2 by omega) with rfl | rfl | rfl <;> rfl
  · rw [if_neg h]
    rw [if_neg (fun e => h (by rw [e]; decide)), if_neg (fun e => h (by rw [e]; decide)), if_neg (fun e => h (by rw [e]; decide))]
theorem mark_iff {k a b : Nat} {x : Int32} (h : 0 < k → a = b) : ((0 ≤ x ∧ x ≤ 1000000) ∧ ¬ (0 < k ∧ x ≤ nI a)) ↔ ((0 ≤ x ∧ x ≤ 1000000) ∧ ¬ (0 < k ∧ x ≤ nI b)) := by
  rcases Nat.eq_zero_or_pos k with e | e
  · subst e; simp
  · rw [h e]
theorem mark_L {Ti : Nat → Nat} {k x : Nat} {L : List Nat} (h : L = adAll Ti k) : adL L x = adAll (updN Ti k x) (k + 1) := by
  show _ = adL (adAll (updN Ti k x) k) (updN Ti k x k)
  rw [updN_s, adAll_congr (g := Ti) k (fun j hj => updN_n (by omega)), ← h]
theorem mark_ti {Ti : Nat → Nat} {k x : Nat} (h : ∀ j, j + 1 < k → Ti j < Ti (j + 1)) (hx : 0 < k → Ti (k - 1) < x) : ∀ j, j + 1 < k + 1 → updN Ti k x j < updN Ti k x (j + 1) := by
  intro j hj
  rw [updN_n (by omega)]
  by_cases e : j + 1 = k
  · rw [e, updN_s]
    have := hx (by omega)
    rw [show k - 1 = j by omega] at this
    exact this
  · rw [updN_n e]; exact h j (by omega)
theorem mark_tb {Ti : Nat → Nat} {k x : Nat} (h : ∀ j, j < k → Ti j ≤ 1000000) (hx : x ≤ 1000000) : ∀ j, j < k + 1 → updN Ti k x j ≤ 1000000 := by
  intro j hj
  by_cases e : j = k
  · rw [e, updN_s]; exact hx
  · rw [updN_n e]; exact h j (by omega)
theorem sh_Sz {Sz : Nat → Nat} {q n2 : Nat} (h : ∀ q, q < 4 → Sz q ≤ 200) (hn : n2 ≤ 200) : ∀ r, r < 4 → updN Sz q n2 r ≤ 200 := by
  intro r hr
  by_cases e : r = q
  · rw [e, updN_s]; exact hn
  · rw [updN_n e]; exact h r hr
theorem sh_st {st : Nat → Nat} {q n2 : Nat} (h : ∀ q, q < 4 → 1 ≤ st q ∧ st q ≤ 1000) (h1 : 1 ≤ n2) (hn : n2 ≤ 1000) : ∀ r, r < 4 → 1 ≤ va_up st q n2 r ∧ va_up st q n2 r ≤ 1000 := by
  intro r hr
  by_cases e : r = q
  · rw [e, va_up_self]; exact ⟨h1, hn⟩
  · rw [va_up_ne _ _ e]; exact h r hr
theorem sh_sh {hd ln La : Nat → Int32} {st Sp : Nat → Nat} {q s2 : Nat} {x2 : Int32} (h : ∀ q, q < 4 → (hd q = 0 ∧ La q < 0) ∨ (¬ hd q = 0 ∧ ¬ La q < 0 ∧ ln q = La q ∧ st q = Sp q)) (h2 : 0 ≤ x2 ∧ x2 ≤ 2) :
    ∀ r, r < 4 → (va_up hd q 1 r = 0 ∧ upd La q x2 r < 0) ∨ (¬ va_up hd q 1 r = 0 ∧ ¬ upd La q x2 r < 0 ∧ va_up ln q x2 r = upd La q x2 r ∧ va_up st q s2 r = updN Sp q s2 r) := by
  intro r hr
  by_cases e : r = q
  · subst e
    rw [va_up_self, va_up_self, va_up_self, pk_us, updN_s]
    exact Or.inr ⟨by decide, Int32.not_lt.mpr h2.1, rfl, rfl⟩
  · rw [va_up_ne _ _ e, va_up_ne _ _ e, va_up_ne _ _ e, pk_un e, updN_n e]; exact h r hr
theorem sh_It {f : Nat → Nat → Int32} {It : Nat → Int32} {q : Nat} (h : ∀ q, q < 4 → ∀ j, j < 200 → f q j = It (200 * q + j)) (hq : q < 4) :
    ∀ r, r < 4 → ∀ j, j < 200 → va_up f q (flF (fun _ => (0 : Int32)) 200 (f q)) r j = rowS It q (fun _ => (0 : Int32)) 200 (200 * r + j) := by
  intro r hr j hj
  unfold rowS
  by_cases e : r = q
  · subst e
    rw [va_up_self, if_pos (by omega)]
    exact if_pos hj
  · rw [va_up_ne _ _ e, if_neg (by omega)]; exact h r hr j hj
theorem sh_Ib {It : Nat → Int32} {q : Nat} (h : ∀ j, -30000 ≤ (It j).toInt ∧ (It j).toInt ≤ 30000) : ∀ j, -30000 ≤ (rowS It q (fun _ => (0 : Int32)) 200 j).toInt ∧ (rowS It q (fun _ => (0 : Int32)) 200 j).toInt ≤ 30000 := by
  intro j
  unfold rowS; split
  · exact (show -30000 ≤ (0 : Int32).toInt ∧ (0 : Int32).toInt ≤ 30000 by decide)
  · exact h j
theorem dr_sh {hd ln La : Nat → Int32} {st Sp : Nat → Nat} {q : Nat} (h : ∀ q, q < 4 → (hd q = 0 ∧ La q < 0) ∨ (¬ hd q = 0 ∧ ¬ La q < 0 ∧ ln q = La q ∧ st q = Sp q)) :
    ∀ r, r < 4 → (va_up hd q 0 r = 0 ∧ (if La q < 0 then La else upd La q (-1)) r < 0) ∨ (¬ va_up hd q 0 r = 0 ∧ ¬ (if La q < 0 then La else upd La q (-1)) r < 0 ∧ ln r = (if La q < 0 then La else upd La q (-1)) r ∧ st r = Sp r) := by
  intro r hr
  by_cases e : r = q
  · subst e
    rw [va_up_self]
    refine Or.inl ⟨rfl, ?_⟩
    split
    · assumption
    · rw [pk_us]; decide
  · rw [va_up_ne _ _ e]
    split
    · exact h r hr
    · rw [pk_un e]; exact h r hr
theorem it_It {f : Nat → Nat → Int32} {It : Nat → Int32} {q j : Nat} {X Y : Int32} (h : ∀ q, q < 4 → ∀ j, j < 200 → f q j = It (200 * q + j)) (hj : j < 200) (he : X = Y) :
    ∀ r, r < 4 → ∀ k, k < 200 → va_up f q (upd (f q) j X) r k = upd It (200 * q + j) Y (200 * r + k) := by
  intro r hr k hk
  by_cases e : r = q
  · subst e
    rw [va_up_self]
    by_cases e2 : k = j
    · subst e2; rw [pk_us, pk_us, he]
    · rw [pk_un e2, pk_un (by omega)]; exact h r hr k hk
  · rw [va_up_ne _ _ e, pk_un (by omega)]; exact h r hr k hk
theorem it_Ib {It : Nat → Int32} {q : Nat} {Y : Int32} (h : ∀ j, -30000 ≤ (It j).toInt ∧ (It j).toInt ≤ 30000) (hY : -30000 ≤ Y.toInt ∧ Y.toInt ≤ 30000) : ∀ j, -30000 ≤ (upd It q Y j).toInt ∧ (upd It q Y j).toInt ≤ 30000 := by
  intro j
  by_cases e : j = q
  · rw [e, pk_us]; exact hY
  · rw [pk_un e]; exact h j
theorem cut_gg {f It gg mm : Nat → Int32} {q st Sp N tt cc : Nat} {M T2 : Nat → Nat} {L : List Nat} (hf : ∀ j, j < 200 → f j = It (200 * q + j)) (hB : ∀ j, -30000 ≤ (It j).toInt ∧ (It j).toInt ≤ 30000) (e : st = Sp) (hs1 : 1 ≤ st) (hs2 : st ≤ 1000) (hN1 : 1 ≤ N) (hN2 : N ≤ 200) (hc1 : 1 ≤ cc) (hc2 : cc ≤ 40) (hR : RLs M L) (hT : RLs T2 L) (hl : tt + cc + 1 ≤ L.length)
    (ha : ∀ b j, tt ≤ b → b < tt + cc → j < 32 → tmF M b j ≤ (N - 1) * st) : ∀ j, j < 32 → flF (meanF f st M tt cc) 32 gg j = flF (meanM It q Sp T2 tt cc) 32 mm j := by
  intro j hj
  unfold flF
  rw [if_pos hj, if_pos hj, ← e]
  refine mean_eq hs1 hs2 hN1 hN2 hc1 hc2 hf hB (fun b hb => ?_)
  have h1 : tmF M (tt + b) j = tmF T2 (tt + b) j := tm_RL (by rw [hR _ (by omega), hT _ (by omega)]) (by rw [hR _ (by omega), hT _ (by omega)])
  exact ⟨h1, h1 ▸ ha (tt + b) j (by omega) (by omega) hj⟩
theorem rd_Mn {Mn : Nat → Nat} {q : Nat} (h : ∀ q, q < 4 → Mn q ≤ 200) (hm : Mn q < 200) : ∀ r, r < 4 → updN Mn q (Mn q + 1) r ≤ 200 := by
  intro r hr
  by_cases e : r = q
  · rw [e, updN_s]; omega
  · rw [updN_n e]; exact h r hr
theorem rd_lf {lf : Nat → Nat → Int32} {Rd : Nat → Int32} {Mn : Nat → Nat} {q : Nat} {v : Int32} (h : ∀ q, q < 4 → ∀ j, j < 200 → lf q j = Rd (200 * q + j)) (hm : Mn q < 200) :
    ∀ r, r < 4 → ∀ j, j < 200 → va_up lf q (upd (lf q) (Mn q) v) r j = upd Rd (200 * q + Mn q) v (200 * r + j) := it_It h hm rfl
theorem rd_mid {lf : Nat → Nat → Int32} {Rd mid : Nat → Int32} {Mn : Nat → Nat} {q : Nat} {v : Int32} (h : ∀ q, q < 4 → 5 ≤ Mn q → mid q = fMd (fun j => Rd (200 * q + j))) (hlf : ∀ q, q < 4 → ∀ j, j < 200 → lf q j = Rd (200 * q + j)) (hq : q < 4) (hm : Mn q < 200) (hMn : ∀ q, q < 4 → Mn q ≤ 200) :
    ∀ r, r < 4 → 5 ≤ updN Mn q (Mn q + 1) r → va_up mid q (if Mn q + 1 = 5 then fMid (upd (lf q) (Mn q) v) else mid q) r = fMd (fun j => upd Rd (200 * q + Mn q) v (200 * r + j)) := by
  intro r hr h5
  by_cases e : r = q
  · subst e
    rw [updN_s] at h5
    rw [va_up_self]
    split
    · rw [fMid_fMd]
      refine fMd_congr (fun i hi => ?_)
      have := rd_lf (v := v) hlf hm r hr i (by omega)
      rw [va_up_self] at this
      exact this
    · rw [h r hr (by omega)]
      exact fMd_congr (fun i hi => (pk_un (by omega)).symm)
  · rw [updN_n e] at h5
    rw [va_up_ne _ _ e, h r hr h5]
    exact fMd_congr (fun i hi => (pk_un (by omega)).symm)
theorem fJ_eq2 {f g : Nat → Int32} {n u : Nat} {a b mid base wr v : Int32} (hu : u ≤ 4) (hn : 1 ≤ n) (hf : ∀ j, j < n → f j = g j) (hv : g (n - 1) = v) (hm : 5 < n → mid = base) (hw : wr = 0 ∨ wr = 1) : fJud f n u a b mid wr = fJm g n u a b base wr v := by
  by_cases h5 : n ≤ 5
  · unfold fJud fJm; rw [if_pos h5, if_pos h5]
  · exact fJ_eq (by omega) hn hf hv hm hw
theorem rd_wr {lf : Nat → Nat → Int32} {Rd mid wr Wd Nm : Nat → Int32} {Mn : Nat → Nat} {q un : Nat} {v wA wB : Int32} (hwr : ∀ q, q < 4 → wr q = Wd q ∧ (Wd q = 0 ∨ Wd q = 1)) (hmid : ∀ q, q < 4 → 5 ≤ Mn q → mid q = fMd (fun j => Rd (200 * q + j))) (hlf : ∀ q, q < 4 → ∀ j, j < 200 → lf q j = Rd (200 * q + j)) (hq : q < 4) (hm : Mn q < 200) (n1 : wA = Nm 0) (n2 : wB = Nm 1) (n5 : un ≤ 4) :
    ∀ r, r < 4 → va_up wr q (fJud (upd (lf q) (Mn q) v) (Mn q + 1) un wA wB (if Mn q + 1 = 5 then fMid (upd (lf q) (Mn q) v) else mid q) (wr q)) r = upd Wd q (fJm (fun j => (upd Rd (200 * q + Mn q) v) (200 * q + j)) (Mn q + 1) un (Nm 0) (Nm 1) (fMd (fun j => (upd Rd (200 * q + Mn q) v) (200 * q + j))) (Wd q) v) r ∧
      (upd Wd q (fJm (fun j => (upd Rd (200 * q + Mn q) v) (200 * q + j)) (Mn q + 1) un (Nm 0) (Nm 1) (fMd (fun j => (upd Rd (200 * q + Mn q) v) (200 * q + j))) (Wd q) v) r = 0 ∨ upd Wd q (fJm (fun j => (upd Rd (200 * q + Mn q) v) (200 * q + j)) (Mn q + 1) un (Nm 0) (Nm 1) (fMd (fun j => (upd Rd (200 * q + Mn q) v) (200 * q + j))) (Wd q) v) r = 1) := by
  intro r hr
  by_cases e : r = q
  · subst e
    rw [va_up_self, pk_us, (hwr r hr).1, n1, n2]
    refine ⟨?_, fJm_01 (hwr r hr).2⟩
    refine fJ_eq2 n5 (by omega) (fun j hj => ?_) pk_us (fun h5 => ?_) (hwr r hr).2
    · have := rd_lf (v := v) hlf hm r hr j (by omega)
      rw [va_up_self] at this
      exact this
    · rw [if_neg (by omega), hmid r hr (by omega)]
      exact fMd_congr (fun i hi => (pk_un (by omega)).symm)
  · rw [va_up_ne _ _ e, pk_un e]; exact hwr r hr
theorem wC_ld {E : EnvT} {z : ZT} {v : Int32} (h : z.ld = v) : wC E (ZT.s_ld z v) = wC E z := by subst h; rfl
theorem wC_sz {E : EnvT} {z : ZT} {v : Int32} (h : z.sz = v) : wC E (ZT.s_sz z v) = wC E z := by subst h; rfl
theorem wC_tg {E : EnvT} {z : ZT} {v : Int32} (h : z.tg = v) : wC E (ZT.s_tg z v) = wC E z := by subst h; rfl
theorem pool2 {E : EnvT} {a b : PRt} {ps : List PRt} : (prC E a ++ prC E b) ++ poolC E ps = poolC E (a :: b :: ps) := by rw [poolC_cons, poolC_cons, List.append_assoc]
theorem pool4 {E : EnvT} {a b c d : PRt} {ps : List PRt} : (prC E a ++ prC E b ++ prC E c ++ prC E d) ++ poolC E ps = poolC E (a :: b :: c :: d :: ps) := by rw [poolC_cons, poolC_cons, poolC_cons, poolC_cons, List.append_assoc, List.append_assoc, List.append_assoc]
theorem tm_end {M : Nat → Nat} {a : Nat} (h : M a < M (a + 1)) : tmF M a 31 ≤ M (a + 1) := by
  unfold tmF; omega
theorem a8_shaft {p : Program} {l : Launch} {e : Env} {s : State} {m : MethodId} {below : List Frame} {meth : Method} {c : Code} {b L : Nat} {xs : Nat → Int32} {E : EnvT} {tq : Nat} {H : Heap} {locs : List Loc} {cells slots : Nat} {Q : State → Prop} {ls : Array Slot} {z : ZT} {i : Nat} {x1 x2 x3 : Int32} (C : LC p s m c b L xs E tq) (hl : lv_has ls 4 (lvL b z i)) (hi : i + 5 ≤ L) (hS : va_S (AA s) s.heap H locs) (h1 : xs (i + 1) = x1) (h2 : xs (i + 2) = x2) (h3 : xs (i + 3) = x3)
    (kont : W p l e room_1 s m #[Value.ref b] below meth c H locs cells slots Q (F0 m 176 ls (.int x3 :: .int x2 :: .int x1 :: .ref z.g0 :: []))) : W p l e room_1 s m #[Value.ref b] below meth c H locs cells slots Q (F0 m 160 ls []) := by
  refine lv_aload_n C.hx C.hb dL_law_160 rfl (lv_at hl 1 rfl) ?_
  refine ldA (k := 1) C hl hi hS (by omega) (by decide) dL_law_161 dL_law_162 dL_law_163 dL_law_164 dL_law_165 h1 ?_
  refine ldA (k := 2) C hl hi hS (by omega) (by decide) dL_law_166 dL_law_167 dL_law_168 dL_law_169 dL_law_170 h2 ?_
  refine ldA (k := 3) C hl hi hS (by omega) (by decide) dL_law_171 dL_law_172 dL_law_173 dL_law_174 dL_law_175 h3 ?_
  exact kont
theorem a9_shaft {p : Program} {l : Launch} {e : Env} {s : State} {m : MethodId} {below : List Frame} {meth : Method} {c : Code} {b L : Nat} {xs : Nat → Int32} {E : EnvT} {tq : Nat} {H : Heap} {locs : List Loc} {cells slots : Nat} {Q : State → Prop} {ls : Array Slot} {z : ZT} {i : Nat} {x1 x2 x3 : Int32} (C : LC p s m c b L xs E tq) (hl : lv_has ls 4 (lvL b z i)) (hi : i + 5 ≤ L) (hS : va_S (AA s) s.heap H locs) (h1 : xs (i + 1) = x1) (h2 : xs (i + 2) = x2) (h3 : xs (i + 3) = x3)
    (kont : W p l e room_1 s m #[Value.ref b] below meth c H locs cells slots Q (F0 m 196 ls (.int x3 :: .int x2 :: .int x1 :: .ref z.m0 :: []))) : W p l e room_1 s m #[Value.ref b] below meth c H locs cells slots Q (F0 m 180 ls []) := by
  refine lv_aload_n C.hx C.hb dL_law_180 rfl (lv_at hl 2 rfl) ?_
  refine ldA (k := 1) C hl hi hS (by omega) (by decide) dL_law_181 dL_law_182 dL_law_183 dL_law_184 dL_law_185 h1 ?_
  refine ldA (k := 2) C hl hi hS (by omega) (by decide) dL_law_186 dL_law_187 dL_law_188 dL_law_189 dL_law_190 h2 ?_
  refine ldA (k := 3) C hl hi hS (by omega) (by decide) dL_law_191 dL_law_192 dL_law_193 dL_law_194 dL_law_195 h3 ?_
  exact kont
theorem a8_ring {p : Program} {l : Launch} {e : Env} {s : State} {m : MethodId} {below : List Frame} {meth : Method} {c : Code} {b L : Nat} {xs : Nat → Int32} {E : EnvT} {tq : Nat} {H : Heap} {locs : List Loc} {cells slots : Nat} {Q : State → Prop} {ls : Array Slot} {z : ZT} {i : Nat} {x1 x2 x3 x4 : Int32} (C : LC p s m c b L xs E tq) (hl : lv_has ls 4 (lvL b z i)) (hi : i + 5 ≤ L) (hS : va_S (AA s) s.heap H locs) (h1 : xs (i + 1) = x1) (h2 : xs (i + 2) = x2) (h3 : xs (i + 3) = x3) (h4 : xs (i + 4) = x4)
    (kont : W p l e room_1 s m #[Value.ref b] below meth c H locs cells slots Q (F0 m 224 ls (.int x4 :: .int x3 :: .int x2 :: .int x1 :: .ref z.g0 :: []))) : W p l e room_1 s m #[Value.ref b] below meth c H locs cells slots Q (F0 m 203 ls []) := by
  refine lv_aload_n C.hx C.hb dL_law_203 rfl (lv_at hl 1 rfl) ?_
  refine ldA (k := 1) C hl hi hS (by omega) (by decide) dL_law_204 dL_law_205 dL_law_206 dL_law_207 dL_law_208 h1 ?_
  refine ldA (k := 2) C hl hi hS (by omega) (by decide) dL_law_209 dL_law_210 dL_law_211 dL_law_212 dL_law_213 h2 ?_
  refine ldA (k := 3) C hl hi hS (by omega) (by decide) dL_law_214 dL_law_215 dL_law_216 dL_law_217 dL_law_218 h3 ?_
  refine ldA (k := 4) C hl hi hS (by omega) (by decide) dL_law_219 dL_law_220 dL_law_221 dL_law_222 dL_law_223 h4 ?_
  exact kont
theorem a9_ring {p : Program} {l : Launch} {e : Env} {s : State} {m : MethodId} {below : List Frame} {meth : Method} {c : Code} {b L : Nat} {xs : Nat → Int32} {E : EnvT} {tq : Nat} {H : Heap} {locs : List Loc} {cells slots : Nat} {Q : State → Prop} {ls : Array Slot} {z : ZT} {i : Nat} {x1 x2 x3 x4 : Int32} (C : LC p s m c b L xs E tq) (hl : lv_has ls 4 (lvL b z i)) (hi : i + 5 ≤ L) (hS : va_S (AA s) s.heap H locs) (h1 : xs (i + 1) = x1) (h2 : xs (i + 2) = x2) (h3 : xs (i + 3) = x3) (h4 : xs (i + 4) = x4)
    (kont : W p l e room_1 s m #[Value.ref b] below meth c H locs cells slots Q (F0 m 249 ls (.int x4 :: .int x3 :: .int x2 :: .int x1 :: .ref z.m0 :: []))) : W p l e room_1 s m #[Value.ref b] below meth c H locs cells slots Q (F0 m 228 ls []) := by
  refine lv_aload_n C.hx C.hb dL_law_228 rfl (lv_at hl 2 rfl) ?_
  refine ldA (k := 1) C hl hi hS (by omega) (by decide) dL_law_229 dL_law_230 dL_law_231 dL_law_232 dL_law_233 h1 ?_
  refine ldA (k := 2) C hl hi hS (by omega) (by decide) dL_law_234 dL_law_235 dL_law_236 dL_law_237 dL_law_238 h2 ?_
  refine ldA (k := 3) C hl hi hS (by omega) (by decide) dL_law_239 dL_law_240 dL_law_241 dL_law_242 dL_law_243 h3 ?_
  refine ldA (k := 4) C hl hi hS (by omega) (by decide) dL_law_244 dL_law_245 dL_law_246 dL_law_247 dL_law_248 h4 ?_
  exact kont
theorem a8_speed {p : Program} {l : Launch} {e : Env} {s : State} {m : MethodId} {below : List Frame} {meth : Method} {c : Code} {b L : Nat} {xs : Nat → Int32} {E : EnvT} {tq : Nat} {H : Heap} {locs : List Loc} {cells slots : Nat} {Q : State → Prop} {ls : Array Slot} {z : ZT} {i : Nat} {x1 x2 : Int32} (C : LC p s m c b L xs E tq) (hl : lv_has ls 4 (lvL b z i)) (hi : i + 5 ≤ L) (hS : va_S (AA s) s.heap H locs) (h1 : xs (i + 1) = x1) (h2 : xs (i + 2) = x2)
    (kont : W p l e room_1 s m #[Value.ref b] below meth c H locs cells slots Q (F0 m 267 ls (.int x2 :: .int x1 :: .ref z.g0 :: []))) : W p l e room_1 s m #[Value.ref b] below meth c H locs cells slots Q (F0 m 256 ls []) := by
  refine lv_aload_n C.hx C.hb dL_law_256 rfl (lv_at hl 1 rfl) ?_
  refine ldA (k := 1) C hl hi hS (by omega) (by decide) dL_law_257 dL_law_258 dL_law_259 dL_law_260 dL_law_261 h1 ?_
  refine ldA (k := 2) C hl hi hS (by omega) (by decide) dL_law_262 dL_law_263 dL_law_264 dL_law_265 dL_law_266 h2 ?_
  exact kont
theorem a9_speed {p : Program} {l : Launch} {e : Env} {s : State} {m : MethodId} {below : List Frame} {meth : Method} {c : Code} {b L : Nat} {xs : Nat → Int32} {E : EnvT} {tq : Nat} {H : Heap} {locs : List Loc} {cells slots : Nat} {Q : State → Prop} {ls : Array Slot} {z : ZT} {i : Nat} {x1 x2 : Int32} (C : LC p s m c b L xs E tq) (hl : lv_has ls 4 (lvL b z i)) (hi : i + 5 ≤ L) (hS : va_S (AA s) s.heap H locs) (h1 : xs (i + 1) = x1) (h2 : xs (i + 2) = x2)
    (kont : W p l e room_1 s m #[Value.ref b] below meth c H locs cells slots Q (F0 m 282 ls (.int x2 :: .int x1 :: .ref z.m0 :: []))) : W p l e room_1 s m #[Value.ref b] below meth c H locs cells slots Q (F0 m 271 ls []) := by
  refine lv_aload_n C.hx C.hb dL_law_271 rfl (lv_at hl 2 rfl) ?_
  refine ldA (k := 1) C hl hi hS (by omega) (by decide) dL_law_272 dL_law_273 dL_law_274 dL_law_275 dL_law_276 h1 ?_
  refine ldA (k := 2) C hl hi hS (by omega) (by decide) dL_law_277 dL_law_278 dL_law_279 dL_law_280 dL_law_281 h2 ?_
  exact kont
theorem a8_parts {p : Program} {l : Launch} {e : Env} {s : State} {m : MethodId} {below : List Frame} {meth : Method} {c : Code} {b L : Nat} {xs : Nat → Int32} {E : EnvT} {tq : Nat} {H : Heap} {locs : List Loc} {cells slots : Nat} {Q : State → Prop} {ls : Array Slot} {z : ZT} {i : Nat} (C : LC p s m c b L xs E tq) (hl : lv_has ls 4 (lvL b z i)) (hi : i + 5 ≤ L) (hS : va_S (AA s) s.heap H locs) 
    (kont : W p l e room_1 s m #[Value.ref b] below meth c H locs cells slots Q (F0 m 290 ls (.ref z.g0 :: []))) : W p l e room_1 s m #[Value.ref b] below meth c H locs cells slots Q (F0 m 289 ls []) := by
  refine lv_aload_n C.hx C.hb dL_law_289 rfl (lv_at hl 1 rfl) ?_
  exact kont
theorem a9_parts {p : Program} {l : Launch} {e : Env} {s : State} {m : MethodId} {below : List Frame} {meth : Method} {c : Code} {b L : Nat} {xs : Nat → Int32} {E : EnvT} {tq : Nat} {H : Heap} {locs : List Loc} {cells slots : Nat} {Q : State → Prop} {ls : Array Slot} {z : ZT} {i : Nat} (C : LC p s m c b L xs E tq) (hl : lv_has ls 4 (lvL b z i)) (hi : i + 5 ≤ L) (hS : va_S (AA s) s.heap H locs) 
    (kont : W p l e room_1 s m #[Value.ref b] below meth c H locs cells slots Q (F0 m 295 ls (.ref z.m0 :: []))) : W p l e room_1 s m #[Value.ref b] below meth c H locs cells slots Q (F0 m 294 ls []) := by
  refine lv_aload_n C.hx C.hb dL_law_294 rfl (lv_at hl 2 rfl) ?_
  exact kont
theorem a8_part {p : Program} {l : Launch} {e : Env} {s : State} {m : MethodId} {below : List Frame} {meth : Method} {c : Code} {b L : Nat} {xs : Nat → Int32} {E : EnvT} {tq : Nat} {H : Heap} {locs : List Loc} {cells slots : Nat} {Q : State → Prop} {ls : Array Slot} {z : ZT} {i : Nat} {x1 x2 : Int32} (C : LC p s m c b L xs E tq) (hl : lv_has ls 4 (lvL b z i)) (hi : i + 5 ≤ L) (hS : va_S (AA s) s.heap H locs) (h1 : xs (i + 1) = x1) (h2 : xs (i + 2) = x2)
    (kont : W p l e room_1 s m #[Value.ref b] below meth c H locs cells slots Q (F0 m 313 ls (.int x2 :: .int x1 :: .ref z.g0 :: []))) : W p l e room_1 s m #[Value.ref b] below meth c H locs cells slots Q (F0 m 302 ls []) := by
  refine lv_aload_n C.hx C.hb dL_law_302 rfl (lv_at hl 1 rfl) ?_
  refine ldA (k := 1) C hl hi hS (by omega) (by decide) dL_law_303 dL_law_304 dL_law_305 dL_law_306 dL_law_307 h1 ?_
  refine ldA (k := 2) C hl hi hS (by omega) (by decide) dL_law_308 dL_law_309 dL_law_310 dL_law_311 dL_law_312 h2 ?_
  exact kont
theorem a9_part {p : Program} {l : Launch} {e : Env} {s : State} {m : MethodId} {below : List Frame} {meth : Method} {c : Code} {b L : Nat} {xs : Nat → Int32} {E : EnvT} {tq : Nat} {H : Heap} {locs : List Loc} {cells slots : Nat} {Q : State → Prop} {ls : Array Slot} {z : ZT} {i : Nat} {x1 x2 : Int32} (C : LC p s m c b L xs E tq) (hl : lv_has ls 4 (lvL b z i)) (hi : i + 5 ≤ L) (hS : va_S (AA s) s.heap H locs) (h1 : xs (i + 1) = x1) (h2 : xs (i + 2) = x2)
    (kont : W p l e room_1 s m #[Value.ref b] below meth c H locs cells slots Q (F0 m 328 ls (.int x2 :: .int x1 :: .ref z.m0 :: []))) : W p l e room_1 s m #[Value.ref b] below meth c H locs cells slots Q (F0 m 317 ls []) := by
  refine lv_aload_n C.hx C.hb dL_law_317 rfl (lv_at hl 2 rfl) ?_
  refine ldA (k := 1) C hl hi hS (by omega) (by decide) dL_law_318 dL_law_319 dL_law_320 dL_law_321 dL_law_322 h1 ?_
  refine ldA (k := 2) C hl hi hS (by omega) (by decide) dL_law_323 dL_law_324 dL_law_325 dL_law_326 dL_law_327 h2 ?_
  exact kont
theorem a8_tone {p : Program} {l : Launch} {e : Env} {s : State} {m : MethodId} {below : List Frame} {meth : Method} {c : Code} {b L : Nat} {xs : Nat → Int32} {E : EnvT} {tq : Nat} {H : Heap} {locs : List Loc} {cells slots : Nat} {Q : State → Prop} {ls : Array Slot} {z : ZT} {i : Nat} {x1 x2 x3 : Int32} (C : LC p s m c b L xs E tq) (hl : lv_has ls 4 (lvL b z i)) (hi : i + 5 ≤ L) (hS : va_S (AA s) s.heap H locs) (h1 : xs (i + 1) = x1) (h2 : xs (i + 2) = x2) (h3 : xs (i + 3) = x3)
    (kont : W p l e room_1 s m #[Value.ref b] below meth c H locs cells slots Q (F0 m 351 ls (.int x3 :: .int x2 :: .int x1 :: .ref z.g0 :: []))) : W p l e room_1 s m #[Value.ref b] below meth c H locs cells slots Q (F0 m 335 ls []) := by
  refine lv_aload_n C.hx C.hb dL_law_335 rfl (lv_at hl 1 rfl) ?_
  refine ldA (k := 1) C hl hi hS (by omega) (by decide) dL_law_336 dL_law_337 dL_law_338 dL_law_339 dL_law_340 h1 ?_
  refine ldA (k := 2) C hl hi hS (by omega) (by decide) dL_law_341 dL_law_342 dL_law_343 dL_law_344 dL_law_345 h2 ?_
  refine ldA (k := 3) C hl hi hS (by omega) (by decide) dL_law_346 dL_law_347 dL_law_348 dL_law_349 dL_law_350 h3 ?_
  exact kont
theorem a9_tone {p : Program} {l : Launch} {e : Env} {s : State} {m : MethodId} {below : List Frame} {meth : Method} {c : Code} {b L : Nat} {xs : Nat → Int32} {E : EnvT} {tq : Nat} {H : Heap} {locs : List Loc} {cells slots : Nat} {Q : State → Prop} {ls : Array Slot} {z : ZT} {i : Nat} {x1 x2 x3 : Int32} (C : LC p s m c b L xs E tq) (hl : lv_has ls 4 (lvL b z i)) (hi : i + 5 ≤ L) (hS : va_S (AA s) s.heap H locs) (h1 : xs (i + 1) = x1) (h2 : xs (i + 2) = x2) (h3 : xs (i + 3) = x3)
    (kont : W p l e room_1 s m #[Value.ref b] below meth c H locs cells slots Q (F0 m 371 ls (.int x3 :: .int x2 :: .int x1 :: .ref z.m0 :: []))) : W p l e room_1 s m #[Value.ref b] below meth c H locs cells slots Q (F0 m 355 ls []) := by
  refine lv_aload_n C.hx C.hb dL_law_355 rfl (lv_at hl 2 rfl) ?_
  refine ldA (k := 1) C hl hi hS (by omega) (by decide) dL_law_356 dL_law_357 dL_law_358 dL_law_359 dL_law_360 h1 ?_
  refine ldA (k := 2) C hl hi hS (by omega) (by decide) dL_law_361 dL_law_362 dL_law_363 dL_law_364 dL_law_365 h2 ?_
  refine ldA (k := 3) C hl hi hS (by omega) (by decide) dL_law_366 dL_law_367 dL_law_368 dL_law_369 dL_law_370 h3 ?_
  exact kont
theorem a8_mark {p : Program} {l : Launch} {e : Env} {s : State} {m : MethodId} {below : List Frame} {meth : Method} {c : Code} {b L : Nat} {xs : Nat → Int32} {E : EnvT} {tq : Nat} {H : Heap} {locs : List Loc} {cells slots : Nat} {Q : State → Prop} {ls : Array Slot} {z : ZT} {i : Nat} {x1 : Int32} (C : LC p s m c b L xs E tq) (hl : lv_has ls 4 (lvL b z i)) (hi : i + 5 ≤ L) (hS : va_S (AA s) s.heap H locs) (h1 : xs (i + 1) = x1)
    (kont : W p l e room_1 s m #[Value.ref b] below meth c H locs cells slots Q (F0 m 384 ls (.int x1 :: .ref z.g0 :: []))) : W p l e room_1 s m #[Value.ref b] below meth c H locs cells slots Q (F0 m 378 ls []) := by
  refine lv_aload_n C.hx C.hb dL_law_378 rfl (lv_at hl 1 rfl) ?_
  refine ldA (k := 1) C hl hi hS (by omega) (by decide) dL_law_379 dL_law_380 dL_law_381 dL_law_382 dL_law_383 h1 ?_
  exact kont
theorem a9_mark {p : Program} {l : Launch} {e : Env} {s : State} {m : MethodId} {below : List Frame} {meth : Method} {c : Code} {b L : Nat} {xs : Nat → Int32} {E : EnvT} {tq : Nat} {H : Heap} {locs : List Loc} {cells slots : Nat} {Q : State → Prop} {ls : Array Slot} {z : ZT} {i : Nat} {x1 : Int32} (C : LC p s m c b L xs E tq) (hl : lv_has ls 4 (lvL b z i)) (hi : i + 5 ≤ L) (hS : va_S (AA s) s.heap H locs) (h1 : xs (i + 1) = x1)
    (kont : W p l e room_1 s m #[Value.ref b] below meth c H locs cells slots Q (F0 m 394 ls (.int x1 :: .ref z.m0 :: []))) : W p l e room_1 s m #[Value.ref b] below meth c H locs cells slots Q (F0 m 388 ls []) := by
  refine lv_aload_n C.hx C.hb dL_law_388 rfl (lv_at hl 2 rfl) ?_
  refine ldA (k := 1) C hl hi hS (by omega) (by decide) dL_law_389 dL_law_390 dL_law_391 dL_law_392 dL_law_393 h1 ?_
  exact kont
theorem a8_unmark {p : Program} {l : Launch} {e : Env} {s : State} {m : MethodId} {below : List Frame} {meth : Method} {c : Code} {b L : Nat} {xs : Nat → Int32} {E : EnvT} {tq : Nat} {H : Heap} {locs : List Loc} {cells slots : Nat} {Q : State → Prop} {ls : Array Slot} {z : ZT} {i : Nat} (C : LC p s m c b L xs E tq) (hl : lv_has ls 4 (lvL b z i)) (hi : i + 5 ≤ L) (hS : va_S (AA s) s.heap H locs) 
    (kont : W p l e room_1 s m #[Value.ref b] below meth c H locs cells slots Q (F0 m 402 ls (.ref z.g0 :: []))) : W p l e room_1 s m #[Value.ref b] below meth c H locs cells slots Q (F0 m 401 ls []) := by
  refine lv_aload_n C.hx C.hb dL_law_401 rfl (lv_at hl 1 rfl) ?_
  exact kont
theorem a9_unmark {p : Program} {l : Launch} {e : Env} {s : State} {m : MethodId} {below : List Frame} {meth : Method} {c : Code} {b L : Nat} {xs : Nat → Int32} {E : EnvT} {tq : Nat} {H : Heap} {locs : List Loc} {cells slots : Nat} {Q : State → Prop} {ls : Array Slot} {z : ZT} {i : Nat} (C : LC p s m c b L xs E tq) (hl : lv_has ls 4 (lvL b z i)) (hi : i + 5 ≤ L) (hS : va_S (AA s) s.heap H locs) 
    (kont : W p l e room_1 s m #[Value.ref b] below meth c H locs cells slots Q (F0 m 407 ls (.ref z.m0 :: []))) : W p l e room_1 s m #[Value.ref b] below meth c H locs cells slots Q (F0 m 406 ls []) := by
  refine lv_aload_n C.hx C.hb dL_law_406 rfl (lv_at hl 2 rfl) ?_
  exact kont
theorem a8_turns {p : Program} {l : Launch} {e : Env} {s : State} {m : MethodId} {below : List Frame} {meth : Method} {c : Code} {b L : Nat} {xs : Nat → Int32} {E : EnvT} {tq : Nat} {H : Heap} {locs : List Loc} {cells slots : Nat} {Q : State → Prop} {ls : Array Slot} {z : ZT} {i : Nat} (C : LC p s m c b L xs E tq) (hl : lv_has ls 4 (lvL b z i)) (hi : i + 5 ≤ L) (hS : va_S (AA s) s.heap H locs) 
    (kont : W p l e room_1 s m #[Value.ref b] below meth c H locs cells slots Q (F0 m 415 ls (.ref z.g0 :: []))) : W p l e room_1 s m #[Value.ref b] below meth c H locs cells slots Q (F0 m 414 ls []) := by
  refine lv_aload_n C.hx C.hb dL_law_414 rfl (lv_at hl 1 rfl) ?_
  exact kont
theorem a9_turns {p : Program} {l : Launch} {e : Env} {s : State} {m : MethodId} {below : List Frame} {meth : Method} {c : Code} {b L : Nat} {xs : Nat → Int32} {E : EnvT} {tq : Nat} {H : Heap} {locs : List Loc} {cells slots : Nat} {Q : State → Prop} {ls : Array Slot} {z : ZT} {i : Nat} (C : LC p s m c b L xs E tq) (hl : lv_has ls 4 (lvL b z i)) (hi : i + 5 ≤ L) (hS : va_S (AA s) s.heap H locs) 
    (kont : W p l e room_1 s m #[Value.ref b] below meth c H locs cells slots Q (F0 m 420 ls (.ref z.m0 :: []))) : W p l e room_1 s m #[Value.ref b] below meth c H locs cells slots Q (F0 m 419 ls []) := by
  refine lv_aload_n C.hx C.hb dL_law_419 rfl (lv_at hl 2 rfl) ?_
  exact kont
theorem a8_turn {p : Program} {l : Launch} {e : Env} {s : State} {m : MethodId} {below : List Frame} {meth : Method} {c : Code} {b L : Nat} {xs : Nat → Int32} {E : EnvT} {tq : Nat} {H : Heap} {locs : List Loc} {cells slots : Nat} {Q : State → Prop} {ls : Array Slot} {z : ZT} {i : Nat} {x1 : Int32} (C : LC p s m c b L xs E tq) (hl : lv_has ls 4 (lvL b z i)) (hi : i + 5 ≤ L) (hS : va_S (AA s) s.heap H locs) (h1 : xs (i + 1) = x1)
    (kont : W p l e room_1 s m #[Value.ref b] below meth c H locs cells slots Q (F0 m 433 ls (.int x1 :: .ref z.g0 :: []))) : W p l e room_1 s m #[Value.ref b] below meth c H locs cells slots Q (F0 m 427 ls []) := by
  refine lv_aload_n C.hx C.hb dL_law_427 rfl (lv_at hl 1 rfl) ?_
  refine ldA (k := 1) C hl hi hS (by omega) (by decide) dL_law_428 dL_law_429 dL_law_430 dL_law_431 dL_law_432 h1 ?_
  exact kont
theorem a9_turn {p : Program} {l : Launch} {e : Env} {s : State} {m : MethodId} {below : List Frame} {meth : Method} {c : Code} {b L : Nat} {xs : Nat → Int32} {E : EnvT} {tq : Nat} {H : Heap} {locs : List Loc} {cells slots : Nat} {Q : State → Prop} {ls : Array Slot} {z : ZT} {i : Nat} {x1 : Int32} (C : LC p s m c b L xs E tq) (hl : lv_has ls 4 (lvL b z i)) (hi : i + 5 ≤ L) (hS : va_S (AA s) s.heap H locs) (h1 : xs (i + 1) = x1)
    (kont : W p l e room_1 s m #[Value.ref b] below meth c H locs cells slots Q (F0 m 443 ls (.int x1 :: .ref z.m0 :: []))) : W p l e room_1 s m #[Value.ref b] below meth c H locs cells slots Q (F0 m 437 ls []) := by
  refine lv_aload_n C.hx C.hb dL_law_437 rfl (lv_at hl 2 rfl) ?_
  refine ldA (k := 1) C hl hi hS (by omega) (by decide) dL_law_438 dL_law_439 dL_law_440 dL_law_441 dL_law_442 h1 ?_
  exact kont
theorem a8_sheet {p : Program} {l : Launch} {e : Env} {s : State} {m : MethodId} {below : List Frame} {meth : Method} {c : Code} {b L : Nat} {xs : Nat → Int32} {E : EnvT} {tq : Nat} {H : Heap} {locs : List Loc} {cells slots : Nat} {Q : State → Prop} {ls : Array Slot} {z : ZT} {i : Nat} {x1 x2 x3 x4 : Int32} (C : LC p s m c b L xs E tq) (hl : lv_has ls 4 (lvL b z i)) (hi : i + 5 ≤ L) (hS : va_S (AA s) s.heap H locs) (h1 : xs (i + 1) = x1) (h2 : xs (i + 2) = x2) (h3 : xs (i + 3) = x3) (h4 : xs (i + 4) = x4)
    (kont : W p l e room_1 s m #[Value.ref b] below meth c H locs cells slots Q (F0 m 471 ls (.int x4 :: .int x3 :: .int x2 :: .int x1 :: .ref z.g0 :: []))) : W p l e room_1 s m #[Value.ref b] below meth c H locs cells slots Q (F0 m 450 ls []) := by
  refine lv_aload_n C.hx C.hb dL_law_450 rfl (lv_at hl 1 rfl) ?_
  refine ldA (k := 1) C hl hi hS (by omega) (by decide) dL_law_451 dL_law_452 dL_law_453 dL_law_454 dL_law_455 h1 ?_
  refine ldA (k := 2) C hl hi hS (by omega) (by decide) dL_law_456 dL_law_457 dL_law_458 dL_law_459 dL_law_460 h2 ?_
  refine ldA (k := 3) C hl hi hS (by omega) (by decide) dL_law_461 dL_law_462 dL_law_463 dL_law_464 dL_law_465 h3 ?_
  refine ldA (k := 4) C hl hi hS (by omega) (by decide) dL_law_466 dL_law_467 dL_law_468 dL_law_469 dL_law_470 h4 ?_
  exact kont
theorem a9_sheet {p : Program} {l : Launch} {e : Env} {s : State} {m : MethodId} {below : List Frame} {meth : Method} {c : Code} {b L : Nat} {xs : Nat → Int32} {E : EnvT} {tq : Nat} {H : Heap} {locs : List Loc} {cells slots : Nat} {Q : State → Prop} {ls : Array Slot} {z : ZT} {i : Nat} {x1 x2 x3 x4 : Int32} (C : LC p s m c b L xs E tq) (hl : lv_has ls 4 (lvL b z i)) (hi : i + 5 ≤ L) (hS : va_S (AA s) s.heap H locs) (h1 : xs (i + 1) = x1) (h2 : xs (i + 2) = x2) (h3 : xs (i + 3) = x3) (h4 : xs (i + 4) = x4)
    (kont : W p l e room_1 s m #[Value.ref b] below meth c H locs cells slots Q (F0 m 496 ls (.int x4 :: .int x3 :: .int x2 :: .int x1 :: .ref z.m0 :: []))) : W p l e room_1 s m #[Value.ref b] below meth c H locs cells slots Q (F0 m 475 ls []) := by
  refine lv_aload_n C.hx C.hb dL_law_475 rfl (lv_at hl 2 rfl) ?_
  refine ldA (k := 1) C hl hi hS (by omega) (by decide) dL_law_476 dL_law_477 dL_law_478 dL_law_479 dL_law_480 h1 ?_
  refine ldA (k := 2) C hl hi hS (by omega) (by decide) dL_law_481 dL_law_482 dL_law_483 dL_law_484 dL_law_485 h2 ?_
  refine ldA (k := 3) C hl hi hS (by omega) (by decide) dL_law_486 dL_law_487 dL_law_488 dL_law_489 dL_law_490 h3 ?_
  refine ldA (k := 4) C hl hi hS (by omega) (by decide) dL_law_491 dL_law_492 dL_law_493 dL_law_494 dL_law_495 h4 ?_
  exact kont
theorem a8_drop {p : Program} {l : Launch} {e : Env} {s : State} {m : MethodId} {below : List Frame} {meth : Method} {c : Code} {b L : Nat} {xs : Nat → Int32} {E : EnvT} {tq : Nat} {H : Heap} {locs : List Loc} {cells slots : Nat} {Q : State → Prop} {ls : Array Slot} {z : ZT} {i : Nat} {x1 : Int32} (C : LC p s m c b L xs E tq) (hl : lv_has ls 4 (lvL b z i)) (hi : i + 5 ≤ L) (hS : va_S (AA s) s.heap H locs) (h1 : xs (i + 1) = x1)
    (kont : W p l e room_1 s m #[Value.ref b] below meth c H locs cells slots Q (F0 m 509 ls (.int x1 :: .ref z.g0 :: []))) : W p l e room_1 s m #[Value.ref b] below meth c H locs cells slots Q (F0 m 503 ls []) := by
  refine lv_aload_n C.hx C.hb dL_law_503 rfl (lv_at hl 1 rfl) ?_
  refine ldA (k := 1) C hl hi hS (by omega) (by decide) dL_law_504 dL_law_505 dL_law_506 dL_law_507 dL_law_508 h1 ?_
  exact kont
theorem a9_drop {p : Program} {l : Launch} {e : Env} {s : State} {m : MethodId} {below : List Frame} {meth : Method} {c : Code} {b L : Nat} {xs : Nat → Int32} {E : EnvT} {tq : Nat} {H : Heap} {locs : List Loc} {cells slots : Nat} {Q : State → Prop} {ls : Array Slot} {z : ZT} {i : Nat} {x1 : Int32} (C : LC p s m c b L xs E tq) (hl : lv_has ls 4 (lvL b z i)) (hi : i + 5 ≤ L) (hS : va_S (AA s) s.heap H locs) (h1 : xs (i + 1) = x1)
    (kont : W p l e room_1 s m #[Value.ref b] below meth c H locs cells slots Q (F0 m 519 ls (.int x1 :: .ref z.m0 :: []))) : W p l e room_1 s m #[Value.ref b] below meth c H locs cells slots Q (F0 m 513 ls []) := by
  refine lv_aload_n C.hx C.hb dL_law_513 rfl (lv_at hl 2 rfl) ?_
  refine ldA (k := 1) C hl hi hS (by omega) (by decide) dL_law_514 dL_law_515 dL_law_516 dL_law_517 dL_law_518 h1 ?_
  exact kont
theorem a8_item {p : Program} {l : Launch} {e : Env} {s : State} {m : MethodId} {below : List Frame} {meth : Method} {c : Code} {b L : Nat} {xs : Nat → Int32} {E : EnvT} {tq : Nat} {H : Heap} {locs : List Loc} {cells slots : Nat} {Q : State → Prop} {ls : Array Slot} {z : ZT} {i : Nat} {x1 x2 x3 x4 : Int32} (C : LC p s m c b L xs E tq) (hl : lv_has ls 4 (lvL b z i)) (hi : i + 5 ≤ L) (hS : va_S (AA s) s.heap H locs) (h1 : xs (i + 1) = x1) (h2 : xs (i + 2) = x2) (h3 : xs (i + 3) = x3) (h4 : xs (i + 4) = x4)
    (kont : W p l e room_1 s m #[Value.ref b] below meth c H locs cells slots Q (F0 m 547 ls (.int x4 :: .int x3 :: .int x2 :: .int x1 :: .ref z.g0 :: []))) : W p l e room_1 s m #[Value.ref b] below meth c H locs cells slots Q (F0 m 526 ls []) := by
  refine lv_aload_n C.hx C.hb dL_law_526 rfl (lv_at hl 1 rfl) ?_
  refine ldA (k := 1) C hl hi hS (by omega) (by decide) dL_law_527 dL_law_528 dL_law_529 dL_law_530 dL_law_531 h1 ?_
  refine ldA (k := 2) C hl hi hS (by omega) (by decide) dL_law_532 dL_law_533 dL_law_534 dL_law_535 dL_law_536 h2 ?_
  refine ldA (k := 3) C hl hi hS (by omega) (by decide) dL_law_537 dL_law_538 dL_law_539 dL_law_540 dL_law_541 h3 ?_
  refine ldA (k := 4) C hl hi hS (by omega) (by decide) dL_law_542 dL_law_543 dL_law_544 dL_law_545 dL_law_546 h4 ?_
  exact kont
theorem a9_item {p : Program} {l : Launch} {e : Env} {s : State} {m : MethodId} {below : List Frame} {meth : Method} {c : Code} {b L : Nat} {xs : Nat → Int32} {E : EnvT} {tq : Nat} {H : Heap} {locs : List Loc} {cells slots : Nat} {Q : State → Prop} {ls : Array Slot} {z : ZT} {i : Nat} {x1 x2 x3 x4 : Int32} (C : LC p s m c b L xs E tq) (hl : lv_has ls 4 (lvL b z i)) (hi : i + 5 ≤ L) (hS : va_S (AA s) s.heap H locs) (h1 : xs (i + 1) = x1) (h2 : xs (i + 2) = x2) (h3 : xs (i + 3) = x3) (h4 : xs (i + 4) = x4)
    (kont : W p l e room_1 s m #[Value.ref b] below meth c H locs cells slots Q (F0 m 572 ls (.int x4 :: .int x3 :: .int x2 :: .int x1 :: .ref z.m0 :: []))) : W p l e room_1 s m #[Value.ref b] below meth c H locs cells slots Q (F0 m 551 ls []) := by
  refine lv_aload_n C.hx C.hb dL_law_551 rfl (lv_at hl 2 rfl) ?_
  refine ldA (k := 1) C hl hi hS (by omega) (by decide) dL_law_552 dL_law_553 dL_law_554 dL_law_555 dL_law_556 h1 ?_
  refine ldA (k := 2) C hl hi hS (by omega) (by decide) dL_law_557 dL_law_558 dL_law_559 dL_law_560 dL_law_561 h2 ?_
  refine ldA (k := 3) C hl hi hS (by omega) (by decide) dL_law_562 dL_law_563 dL_law_564 dL_law_565 dL_law_566 h3 ?_
  refine ldA (k := 4) C hl hi hS (by omega) (by decide) dL_law_567 dL_law_568 dL_law_569 dL_law_570 dL_law_571 h4 ?_
  exact kont
theorem a8_cut {p : Program} {l : Launch} {e : Env} {s : State} {m : MethodId} {below : List Frame} {meth : Method} {c : Code} {b L : Nat} {xs : Nat → Int32} {E : EnvT} {tq : Nat} {H : Heap} {locs : List Loc} {cells slots : Nat} {Q : State → Prop} {ls : Array Slot} {z : ZT} {i : Nat} {x1 x2 x3 : Int32} (C : LC p s m c b L xs E tq) (hl : lv_has ls 4 (lvL b z i)) (hi : i + 5 ≤ L) (hS : va_S (AA s) s.heap H locs) (h1 : xs (i + 1) = x1) (h2 : xs (i + 2) = x2) (h3 : xs (i + 3) = x3)
    (kont : W p l e room_1 s m #[Value.ref b] below meth c H locs cells slots Q (F0 m 595 ls (.int x3 :: .int x2 :: .int x1 :: .ref z.g0 :: []))) : W p l e room_1 s m #[Value.ref b] below meth c H locs cells slots Q (F0 m 579 ls []) := by
  refine lv_aload_n C.hx C.hb dL_law_579 rfl (lv_at hl 1 rfl) ?_
  refine ldA (k := 1) C hl hi hS (by omega) (by decide) dL_law_580 dL_law_581 dL_law_582 dL_law_583 dL_law_584 h1 ?_
  refine ldA (k := 2) C hl hi hS (by omega) (by decide) dL_law_585 dL_law_586 dL_law_587 dL_law_588 dL_law_589 h2 ?_
  refine ldA (k := 3) C hl hi hS (by omega) (by decide) dL_law_590 dL_law_591 dL_law_592 dL_law_593 dL_law_594 h3 ?_
  exact kont
theorem a9_cut {p : Program} {l : Launch} {e : Env} {s : State} {m : MethodId} {below : List Frame} {meth : Method} {c : Code} {b L : Nat} {xs : Nat → Int32} {E : EnvT} {tq : Nat} {H : Heap} {locs : List Loc} {cells slots : Nat} {Q : State → Prop} {ls : Array Slot} {z : ZT} {i : Nat} {x1 x2 x3 : Int32} (C : LC p s m c b L xs E tq) (hl : lv_has ls 4 (lvL b z i)) (hi : i + 5 ≤ L) (hS : va_S (AA s) s.heap H locs) (h1 : xs (i + 1) = x1) (h2 : xs (i + 2) = x2) (h3 : xs (i + 3) = x3)
    (kont : W p l e room_1 s m #[Value.ref b] below meth c H locs cells slots Q (F0 m 615 ls (.int x3 :: .int x2 :: .int x1 :: .ref z.m0 :: []))) : W p l e room_1 s m #[Value.ref b] below meth c H locs cells slots Q (F0 m 599 ls []) := by
  refine lv_aload_n C.hx C.hb dL_law_599 rfl (lv_at hl 2 rfl) ?_
  refine ldA (k := 1) C hl hi hS (by omega) (by decide) dL_law_600 dL_law_601 dL_law_602 dL_law_603 dL_law_604 h1 ?_
  refine ldA (k := 2) C hl hi hS (by omega) (by decide) dL_law_605 dL_law_606 dL_law_607 dL_law_608 dL_law_609 h2 ?_
  refine ldA (k := 3) C hl hi hS (by omega) (by decide) dL_law_610 dL_law_611 dL_law_612 dL_law_613 dL_law_614 h3 ?_
  exact kont
theorem a8_mean {p : Program} {l : Launch} {e : Env} {s : State} {m : MethodId} {below : List Frame} {meth : Method} {c : Code} {b L : Nat} {xs : Nat → Int32} {E : EnvT} {tq : Nat} {H : Heap} {locs : List Loc} {cells slots : Nat} {Q : State → Prop} {ls : Array Slot} {z : ZT} {i : Nat} {x1 : Int32} (C : LC p s m c b L xs E tq) (hl : lv_has ls 4 (lvL b z i)) (hi : i + 5 ≤ L) (hS : va_S (AA s) s.heap H locs) (h1 : xs (i + 1) = x1)
    (kont : W p l e room_1 s m #[Value.ref b] below meth c H locs cells slots Q (F0 m 628 ls (.int x1 :: .ref z.g0 :: []))) : W p l e room_1 s m #[Value.ref b] below meth c H locs cells slots Q (F0 m 622 ls []) := by
  refine lv_aload_n C.hx C.hb dL_law_622 rfl (lv_at hl 1 rfl) ?_
  refine ldA (k := 1) C hl hi hS (by omega) (by decide) dL_law_623 dL_law_624 dL_law_625 dL_law_626 dL_law_627 h1 ?_
  exact kont
theorem a9_mean {p : Program} {l : Launch} {e : Env} {s : State} {m : MethodId} {below : List Frame} {meth : Method} {c : Code} {b L : Nat} {xs : Nat → Int32} {E : EnvT} {tq : Nat} {H : Heap} {locs : List Loc} {cells slots : Nat} {Q : State → Prop} {ls : Array Slot} {z : ZT} {i : Nat} {x1 : Int32} (C : LC p s m c b L xs E tq) (hl : lv_has ls 4 (lvL b z i)) (hi : i + 5 ≤ L) (hS : va_S (AA s) s.heap H locs) (h1 : xs (i + 1) = x1)
    (kont : W p l e room_1 s m #[Value.ref b] below meth c H locs cells slots Q (F0 m 638 ls (.int x1 :: .ref z.m0 :: []))) : W p l e room_1 s m #[Value.ref b] below meth c H locs cells slots Q (F0 m 632 ls []) := by
  refine lv_aload_n C.hx C.hb dL_law_632 rfl (lv_at hl 2 rfl) ?_
  refine ldA (k := 1) C hl hi hS (by omega) (by decide) dL_law_633 dL_law_634 dL_law_635 dL_law_636 dL_law_637 h1 ?_
  exact kont
theorem a8_strength {p : Program} {l : Launch} {e : Env} {s : State} {m : MethodId} {below : List Frame} {meth : Method} {c : Code} {b L : Nat} {xs : Nat → Int32} {E : EnvT} {tq : Nat} {H : Heap} {locs : List Loc} {cells slots : Nat} {Q : State → Prop} {ls : Array Slot} {z : ZT} {i : Nat} {x1 : Int32} (C : LC p s m c b L xs E tq) (hl : lv_has ls 4 (lvL b z i)) (hi : i + 5 ≤ L) (hS : va_S (AA s) s.heap H locs) (h1 : xs (i + 1) = x1)
    (kont : W p l e room_1 s m #[Value.ref b] below meth c H locs cells slots Q (F0 m 651 ls (.int x1 :: .ref z.g0 :: []))) : W p l e room_1 s m #[Value.ref b] below meth c H locs cells slots Q (F0 m 645 ls []) := by
  refine lv_aload_n C.hx C.hb dL_law_645 rfl (lv_at hl 1 rfl) ?_
  refine ldA (k := 1) C hl hi hS (by omega) (by decide) dL_law_646 dL_law_647 dL_law_648 dL_law_649 dL_law_650 h1 ?_
  exact kont
theorem a9_strength {p : Program} {l : Launch} {e : Env} {s : State} {m : MethodId} {below : List Frame} {meth : Method} {c : Code} {b L : Nat} {xs : Nat → Int32} {E : EnvT} {tq : Nat} {H : Heap} {locs : List Loc} {cells slots : Nat} {Q : State → Prop} {ls : Array Slot} {z : ZT} {i : Nat} {x1 : Int32} (C : LC p s m c b L xs E tq) (hl : lv_has ls 4 (lvL b z i)) (hi : i + 5 ≤ L) (hS : va_S (AA s) s.heap H locs) (h1 : xs (i + 1) = x1)
    (kont : W p l e room_1 s m #[Value.ref b] below meth c H locs cells slots Q (F0 m 661 ls (.int x1 :: .ref z.m0 :: []))) : W p l e room_1 s m #[Value.ref b] below meth c H locs cells slots Q (F0 m 655 ls []) := by
  refine lv_aload_n C.hx C.hb dL_law_655 rfl (lv_at hl 2 rfl) ?_
  refine ldA (k := 1) C hl hi hS (by omega) (by decide) dL_law_656 dL_law_657 dL_law_658 dL_law_659 dL_law_660 h1 ?_
  exact kont
theorem a8_line {p : Program} {l : Launch} {e : Env} {s : State} {m : MethodId} {below : List Frame} {meth : Method} {c : Code} {b L : Nat} {xs : Nat → Int32} {E : EnvT} {tq : Nat} {H : Heap} {locs : List Loc} {cells slots : Nat} {Q : State → Prop} {ls : Array Slot} {z : ZT} {i : Nat} {x1 x2 : Int32} (C : LC p s m c b L xs E tq) (hl : lv_has ls 4 (lvL b z i)) (hi : i + 5 ≤ L) (hS : va_S (AA s) s.heap H locs) (h1 : xs (i + 1) = x1) (h2 : xs (i + 2) = x2)
    (kont : W p l e room_1 s m #[Value.ref b] below meth c H locs cells slots Q (F0 m 679 ls (.int x2 :: .int x1 :: .ref z.g0 :: []))) : W p l e room_1 s m #[Value.ref b] below meth c H locs cells slots Q (F0 m 668 ls []) := by
  refine lv_aload_n C.hx C.hb dL_law_668 rfl (lv_at hl 1 rfl) ?_
  refine ldA (k := 1) C hl hi hS (by omega) (by decide) dL_law_669 dL_law_670 dL_law_671 dL_law_672 dL_law_673 h1 ?_
  refine ldA (k := 2) C hl hi hS (by omega) (by decide) dL_law_674 dL_law_675 dL_law_676 dL_law_677 dL_law_678 h2 ?_
  exact kont
theorem a9_line {p : Program} {l : Launch} {e : Env} {s : State} {m : MethodId} {below : List Frame} {meth : Method} {c : Code} {b L : Nat} {xs : Nat → Int32} {E : EnvT} {tq : Nat} {H : Heap} {locs : List Loc} {cells slots : Nat} {Q : State → Prop} {ls : Array Slot} {z : ZT} {i : Nat} {x1 x2 : Int32} (C : LC p s m c b L xs E tq) (hl : lv_has ls 4 (lvL b z i)) (hi : i + 5 ≤ L) (hS : va_S (AA s) s.heap H locs) (h1 : xs (i + 1) = x1) (h2 : xs (i + 2) = x2)
    (kont : W p l e room_1 s m #[Value.ref b] below meth c H locs cells slots Q (F0 m 694 ls (.int x2 :: .int x1 :: .ref z.m0 :: []))) : W p l e room_1 s m #[Value.ref b] below meth c H locs cells slots Q (F0 m 683 ls []) := by
  refine lv_aload_n C.hx C.hb dL_law_683 rfl (lv_at hl 2 rfl) ?_
  refine ldA (k := 1) C hl hi hS (by omega) (by decide) dL_law_684 dL_law_685 dL_law_686 dL_law_687 dL_law_688 h1 ?_
  refine ldA (k := 2) C hl hi hS (by omega) (by decide) dL_law_689 dL_law_690 dL_law_691 dL_law_692 dL_law_693 h2 ?_
  exact kont
theorem a8_unline {p : Program} {l : Launch} {e : Env} {s : State} {m : MethodId} {below : List Frame} {meth : Method} {c : Code} {b L : Nat} {xs : Nat → Int32} {E : EnvT} {tq : Nat} {H : Heap} {locs : List Loc} {cells slots : Nat} {Q : State → Prop} {ls : Array Slot} {z : ZT} {i : Nat} (C : LC p s m c b L xs E tq) (hl : lv_has ls 4 (lvL b z i)) (hi : i + 5 ≤ L) (hS : va_S (AA s) s.heap H locs) 
    (kont : W p l e room_1 s m #[Value.ref b] below meth c H locs cells slots Q (F0 m 702 ls (.ref z.g0 :: []))) : W p l e room_1 s m #[Value.ref b] below meth c H locs cells slots Q (F0 m 701 ls []) := by
  refine lv_aload_n C.hx C.hb dL_law_701 rfl (lv_at hl 1 rfl) ?_
  exact kont
theorem a9_unline {p : Program} {l : Launch} {e : Env} {s : State} {m : MethodId} {below : List Frame} {meth : Method} {c : Code} {b L : Nat} {xs : Nat → Int32} {E : EnvT} {tq : Nat} {H : Heap} {locs : List Loc} {cells slots : Nat} {Q : State → Prop} {ls : Array Slot} {z : ZT} {i : Nat} (C : LC p s m c b L xs E tq) (hl : lv_has ls 4 (lvL b z i)) (hi : i + 5 ≤ L) (hS : va_S (AA s) s.heap H locs) 
    (kont : W p l e room_1 s m #[Value.ref b] below meth c H locs cells slots Q (F0 m 707 ls (.ref z.m0 :: []))) : W p l e room_1 s m #[Value.ref b] below meth c H locs cells slots Q (F0 m 706 ls []) := by
  refine lv_aload_n C.hx C.hb dL_law_706 rfl (lv_at hl 2 rfl) ?_
  exact kont
theorem a8_slip {p : Program} {l : Launch} {e : Env} {s : State} {m : MethodId} {below : List Frame} {meth : Method} {c : Code} {b L : Nat} {xs : Nat → Int32} {E : EnvT} {tq : Nat} {H : Heap} {locs : List Loc} {cells slots : Nat} {Q : State → Prop} {ls : Array Slot} {z : ZT} {i : Nat} {x1 : Int32} (C : LC p s m c b L xs E tq) (hl : lv_has ls 4 (lvL b z i)) (hi : i + 5 ≤ L) (hS : va_S (AA s) s.heap H locs) (h1 : xs (i + 1) = x1)
    (kont : W p l e room_1 s m #[Value.ref b] below meth c H locs cells slots Q (F0 m 720 ls (.int x1 :: .ref z.g0 :: []))) : W p l e room_1 s m #[Value.ref b] below meth c H locs cells slots Q (F0 m 714 ls []) := by
  refine lv_aload_n C.hx C.hb dL_law_714 rfl (lv_at hl 1 rfl) ?_
  refine ldA (k := 1) C hl hi hS (by omega) (by decide) dL_law_715 dL_law_716 dL_law_717 dL_law_718 dL_law_719 h1 ?_
  exact kont
theorem a9_slip {p : Program} {l : Launch} {e : Env} {s : State} {m : MethodId} {below : List Frame} {meth : Method} {c : Code} {b L : Nat} {xs : Nat → Int32} {E : EnvT} {tq : Nat} {H : Heap} {locs : List Loc} {cells slots : Nat} {Q : State → Prop} {ls : Array Slot} {z : ZT} {i : Nat} {x1 : Int32} (C : LC p s m c b L xs E tq) (hl : lv_has ls 4 (lvL b z i)) (hi : i + 5 ≤ L) (hS : va_S (AA s) s.heap H locs) (h1 : xs (i + 1) = x1)
    (kont : W p l e room_1 s m #[Value.ref b] below meth c H locs cells slots Q (F0 m 730 ls (.int x1 :: .ref z.m0 :: []))) : W p l e room_1 s m #[Value.ref b] below meth c H locs cells slots Q (F0 m 724 ls []) := by
  refine lv_aload_n C.hx C.hb dL_law_724 rfl (lv_at hl 2 rfl) ?_
  refine ldA (k := 1) C hl hi hS (by omega) (by decide) dL_law_725 dL_law_726 dL_law_727 dL_law_728 dL_law_729 h1 ?_
  exact kont
theorem a8_explains {p : Program} {l : Launch} {e : Env} {s : State} {m : MethodId} {below : List Frame} {meth : Method} {c : Code} {b L : Nat} {xs : Nat → Int32} {E : EnvT} {tq : Nat} {H : Heap} {locs : List Loc} {cells slots : Nat} {Q : State → Prop} {ls : Array Slot} {z : ZT} {i : Nat} {x1 : Int32} (C : LC p s m c b L xs E tq) (hl : lv_has ls 4 (lvL b z i)) (hi : i + 5 ≤ L) (hS : va_S (AA s) s.heap H locs) (h1 : xs (i + 1) = x1)
    (kont : W p l e room_1 s m #[Value.ref b] below meth c H locs cells slots Q (F0 m 743 ls (.int x1 :: .ref z.g0 :: []))) : W p l e room_1 s m #[Value.ref b] below meth c H locs cells slots Q (F0 m 737 ls []) := by
  refine lv_aload_n C.hx C.hb dL_law_737 rfl (lv_at hl 1 rfl) ?_
  refine ldA (k := 1) C hl hi hS (by omega) (by decide) dL_law_738 dL_law_739 dL_law_740 dL_law_741 dL_law_742 h1 ?_
  exact kont
theorem a9_explains {p : Program} {l : Launch} {e : Env} {s : State} {m : MethodId} {below : List Frame} {meth : Method} {c : Code} {b L : Nat} {xs : Nat → Int32} {E : EnvT} {tq : Nat} {H : Heap} {locs : List Loc} {cells slots : Nat} {Q : State → Prop} {ls : Array Slot} {z : ZT} {i : Nat} {x1 : Int32} (C : LC p s m c b L xs E tq) (hl : lv_has ls 4 (lvL b z i)) (hi : i + 5 ≤ L) (hS : va_S (AA s) s.heap H locs) (h1 : xs (i + 1) = x1)
    (kont : W p l e room_1 s m #[Value.ref b] below meth c H locs cells slots Q (F0 m 753 ls (.int x1 :: .ref z.m0 :: []))) : W p l e room_1 s m #[Value.ref b] below meth c H locs cells slots Q (F0 m 747 ls []) := by
  refine lv_aload_n C.hx C.hb dL_law_747 rfl (lv_at hl 2 rfl) ?_
  refine ldA (k := 1) C hl hi hS (by omega) (by decide) dL_law_748 dL_law_749 dL_law_750 dL_law_751 dL_law_752 h1 ?_
  exact kont
theorem a8_named {p : Program} {l : Launch} {e : Env} {s : State} {m : MethodId} {below : List Frame} {meth : Method} {c : Code} {b L : Nat} {xs : Nat → Int32} {E : EnvT} {tq : Nat} {H : Heap} {locs : List Loc} {cells slots : Nat} {Q : State → Prop} {ls : Array Slot} {z : ZT} {i : Nat} {x1 : Int32} (C : LC p s m c b L xs E tq) (hl : lv_has ls 4 (lvL b z i)) (hi : i + 5 ≤ L) (hS : va_S (AA s) s.heap H locs) (h1 : xs (i + 1) = x1)
    (kont : W p l e room_1 s m #[Value.ref b] below meth c H locs cells slots Q (F0 m 766 ls (.int x1 :: .ref z.g0 :: []))) : W p l e room_1 s m #[Value.ref b] below meth c H locs cells slots Q (F0 m 760 ls []) := by
  refine lv_aload_n C.hx C.hb dL_law_760 rfl (lv_at hl 1 rfl) ?_
  refine ldA (k := 1) C hl hi hS (by omega) (by decide) dL_law_761 dL_law_762 dL_law_763 dL_law_764 dL_law_765 h1 ?_
  exact kont
theorem a9_named {p : Program} {l : Launch} {e : Env} {s : State} {m : MethodId} {below : List Frame} {meth : Method} {c : Code} {b L : Nat} {xs : Nat → Int32} {E : EnvT} {tq : Nat} {H : Heap} {locs : List Loc} {cells slots : Nat} {Q : State → Prop} {ls : Array Slot} {z : ZT} {i : Nat} {x1 : Int32} (C : LC p s m c b L xs E tq) (hl : lv_has ls 4 (lvL b z i)) (hi : i + 5 ≤ L) (hS : va_S (AA s) s.heap H locs) (h1 : xs (i + 1) = x1)
    (kont : W p l e room_1 s m #[Value.ref b] below meth c H locs cells slots Q (F0 m 776 ls (.int x1 :: .ref z.m0 :: []))) : W p l e room_1 s m #[Value.ref b] below meth c H locs cells slots Q (F0 m 770 ls []) := by
  refine lv_aload_n C.hx C.hb dL_law_770 rfl (lv_at hl 2 rfl) ?_
  refine ldA (k := 1) C hl hi hS (by omega) (by decide) dL_law_771 dL_law_772 dL_law_773 dL_law_774 dL_law_775 h1 ?_
  exact kont
theorem a8_heap {p : Program} {l : Launch} {e : Env} {s : State} {m : MethodId} {below : List Frame} {meth : Method} {c : Code} {b L : Nat} {xs : Nat → Int32} {E : EnvT} {tq : Nat} {H : Heap} {locs : List Loc} {cells slots : Nat} {Q : State → Prop} {ls : Array Slot} {z : ZT} {i : Nat} {x1 : Int32} (C : LC p s m c b L xs E tq) (hl : lv_has ls 4 (lvL b z i)) (hi : i + 5 ≤ L) (hS : va_S (AA s) s.heap H locs) (h1 : xs (i + 1) = x1)
    (kont : W p l e room_1 s m #[Value.ref b] below meth c H locs cells slots Q (F0 m 789 ls (.int x1 :: .ref z.g0 :: []))) : W p l e room_1 s m #[Value.ref b] below meth c H locs cells slots Q (F0 m 783 ls []) := by
  refine lv_aload_n C.hx C.hb dL_law_783 rfl (lv_at hl 1 rfl) ?_
  refine ldA (k := 1) C hl hi hS (by omega) (by decide) dL_law_784 dL_law_785 dL_law_786 dL_law_787 dL_law_788 h1 ?_
  exact kont
theorem a9_heap {p : Program} {l : Launch} {e : Env} {s : State} {m : MethodId} {below : List Frame} {meth : Method} {c : Code} {b L : Nat} {xs : Nat → Int32} {E : EnvT} {tq : Nat} {H : Heap} {locs : List Loc} {cells slots : Nat} {Q : State → Prop} {ls : Array Slot} {z : ZT} {i : Nat} {x1 : Int32} {rv : Value} (C : LC p s m c b L xs E tq) (hl : lv_has ls 4 (lvL b z i)) (hi : i + 5 ≤ L) (hS : va_S (AA s) s.heap H locs) (h1 : xs (i + 1) = x1)
    (kont : W p l e room_1 s m #[Value.ref b] below meth c H locs cells slots Q (F0 m 798 ls (.int x1 :: .ref z.m0 :: rv :: []))) : W p l e room_1 s m #[Value.ref b] below meth c H locs cells slots Q (F0 m (789 + 3) ls (rv :: [])) := by
  refine lv_aload_n C.hx C.hb dL_law_792 rfl (lv_at hl 2 rfl) ?_
  refine ldA (k := 1) C hl hi hS (by omega) (by decide) dL_law_793 dL_law_794 dL_law_795 dL_law_796 dL_law_797 h1 ?_
  exact kont
theorem a8_strange {p : Program} {l : Launch} {e : Env} {s : State} {m : MethodId} {below : List Frame} {meth : Method} {c : Code} {b L : Nat} {xs : Nat → Int32} {E : EnvT} {tq : Nat} {H : Heap} {locs : List Loc} {cells slots : Nat} {Q : State → Prop} {ls : Array Slot} {z : ZT} {i : Nat} (C : LC p s m c b L xs E tq) (hl : lv_has ls 4 (lvL b z i)) (hi : i + 5 ≤ L) (hS : va_S (AA s) s.heap H locs) 
    (kont : W p l e room_1 s m #[Value.ref b] below meth c H locs cells slots Q (F0 m 807 ls (.ref z.g0 :: []))) : W p l e room_1 s m #[Value.ref b] below meth c H locs cells slots Q (F0 m 806 ls []) := by
  refine lv_aload_n C.hx C.hb dL_law_806 rfl (lv_at hl 1 rfl) ?_
  exact kont
theorem a9_strange {p : Program} {l : Launch} {e : Env} {s : State} {m : MethodId} {below : List Frame} {meth : Method} {c : Code} {b L : Nat} {xs : Nat → Int32} {E : EnvT} {tq : Nat} {H : Heap} {locs : List Loc} {cells slots : Nat} {Q : State → Prop} {ls : Array Slot} {z : ZT} {i : Nat} (C : LC p s m c b L xs E tq) (hl : lv_has ls 4 (lvL b z i)) (hi : i + 5 ≤ L) (hS : va_S (AA s) s.heap H locs) 
    (kont : W p l e room_1 s m #[Value.ref b] below meth c H locs cells slots Q (F0 m 812 ls (.ref z.m0 :: []))) : W p l e room_1 s m #[Value.ref b] below meth c H locs cells slots Q (F0 m 811 ls []) := by
  refine lv_aload_n C.hx C.hb dL_law_811 rfl (lv_at hl 2 rfl) ?_
  exact kont
theorem a8_laws {p : Program} {l : Launch} {e : Env} {s : State} {m : MethodId} {below : List Frame} {meth : Method} {c : Code} {b L : Nat} {xs : Nat → Int32} {E : EnvT} {tq : Nat} {H : Heap} {locs : List Loc} {cells slots : Nat} {Q : State → Prop} {ls : Array Slot} {z : ZT} {i : Nat} {x1 x2 x3 : Int32} (C : LC p s m c b L xs E tq) (hl : lv_has ls 4 (lvL b z i)) (hi : i + 5 ≤ L) (hS : va_S (AA s) s.heap H locs) (h1 : xs (i + 1) = x1) (h2 : xs (i + 2) = x2) (h3 : xs (i + 3) = x3)
    (kont : W p l e room_1 s m #[Value.ref b] below meth c H locs cells slots Q (F0 m 835 ls (.int x3 :: .int x2 :: .int x1 :: .ref z.g0 :: []))) : W p l e room_1 s m #[Value.ref b] below meth c H locs cells slots Q (F0 m 819 ls []) := by
  refine lv_aload_n C.hx C.hb dL_law_819 rfl (lv_at hl 1 rfl) ?_
  refine ldA (k := 1) C hl hi hS (by omega) (by decide) dL_law_820 dL_law_821 dL_law_822 dL_law_823 dL_law_824 h1 ?_
  refine ldA (k := 2) C hl hi hS (by omega) (by decide) dL_law_825 dL_law_826 dL_law_827 dL_law_828 dL_law_829 h2 ?_
  refine ldA (k := 3) C hl hi hS (by omega) (by decide) dL_law_830 dL_law_831 dL_law_832 dL_law_833 dL_law_834 h3 ?_
  exact kont
theorem a9_laws {p : Program} {l : Launch} {e : Env} {s : State} {m : MethodId} {below : List Frame} {meth : Method} {c : Code} {b L : Nat} {xs : Nat → Int32} {E : EnvT} {tq : Nat} {H : Heap} {locs : List Loc} {cells slots : Nat} {Q : State → Prop} {ls : Array Slot} {z : ZT} {i : Nat} {x1 x2 x3 : Int32} (C : LC p s m c b L xs E tq) (hl : lv_has ls 4 (lvL b z i)) (hi : i + 5 ≤ L) (hS : va_S (AA s) s.heap H locs) (h1 : xs (i + 1) = x1) (h2 : xs (i + 2) = x2) (h3 : xs (i + 3) = x3)
    (kont : W p l e room_1 s m #[Value.ref b] below meth c H locs cells slots Q (F0 m 855 ls (.int x3 :: .int x2 :: .int x1 :: .ref z.m0 :: []))) : W p l e room_1 s m #[Value.ref b] below meth c H locs cells slots Q (F0 m 839 ls []) := by
  refine lv_aload_n C.hx C.hb dL_law_839 rfl (lv_at hl 2 rfl) ?_
  refine ldA (k := 1) C hl hi hS (by omega) (by decide) dL_law_840 dL_law_841 dL_law_842 dL_law_843 dL_law_844 h1 ?_
  refine ldA (k := 2) C hl hi hS (by omega) (by decide) dL_law_845 dL_law_846 dL_law_847 dL_law_848 dL_law_849 h2 ?_
  refine ldA (k := 3) C hl hi hS (by omega) (by decide) dL_law_850 dL_law_851 dL_law_852 dL_law_853 dL_law_854 h3 ?_
  exact kont
theorem a8_reading {p : Program} {l : Launch} {e : Env} {s : State} {m : MethodId} {below : List Frame} {meth : Method} {c : Code} {b L : Nat} {xs : Nat → Int32} {E : EnvT} {tq : Nat} {H : Heap} {locs : List Loc} {cells slots : Nat} {Q : State → Prop} {ls : Array Slot} {z : ZT} {i : Nat} {x1 x2 : Int32} (C : LC p s m c b L xs E tq) (hl : lv_has ls 4 (lvL b z i)) (hi : i + 5 ≤ L) (hS : va_S (AA s) s.heap H locs) (h1 : xs (i + 1) = x1) (h2 : xs (i + 2) = x2)
    (kont : W p l e room_1 s m #[Value.ref b] below meth c H locs cells slots Q (F0 m 873 ls (.int x2 :: .int x1 :: .ref z.g0 :: []))) : W p l e room_1 s m #[Value.ref b] below meth c H locs cells slots Q (F0 m 862 ls []) := by
  refine lv_aload_n C.hx C.hb dL_law_862 rfl (lv_at hl 1 rfl) ?_
  refine ldA (k := 1) C hl hi hS (by omega) (by decide) dL_law_863 dL_law_864 dL_law_865 dL_law_866 dL_law_867 h1 ?_
  refine ldA (k := 2) C hl hi hS (by omega) (by decide) dL_law_868 dL_law_869 dL_law_870 dL_law_871 dL_law_872 h2 ?_
  exact kont
theorem a9_reading {p : Program} {l : Launch} {e : Env} {s : State} {m : MethodId} {below : List Frame} {meth : Method} {c : Code} {b L : Nat} {xs : Nat → Int32} {E : EnvT} {tq : Nat} {H : Heap} {locs : List Loc} {cells slots : Nat} {Q : State → Prop} {ls : Array Slot} {z : ZT} {i : Nat} {x1 x2 : Int32} (C : LC p s m c b L xs E tq) (hl : lv_has ls 4 (lvL b z i)) (hi : i + 5 ≤ L) (hS : va_S (AA s) s.heap H locs) (h1 : xs (i + 1) = x1) (h2 : xs (i + 2) = x2)
    (kont : W p l e room_1 s m #[Value.ref b] below meth c H locs cells slots Q (F0 m 888 ls (.int x2 :: .int x1 :: .ref z.m0 :: []))) : W p l e room_1 s m #[Value.ref b] below meth c H locs cells slots Q (F0 m 877 ls []) := by
  refine lv_aload_n C.hx C.hb dL_law_877 rfl (lv_at hl 2 rfl) ?_
  refine ldA (k := 1) C hl hi hS (by omega) (by decide) dL_law_878 dL_law_879 dL_law_880 dL_law_881 dL_law_882 h1 ?_
  refine ldA (k := 2) C hl hi hS (by omega) (by decide) dL_law_883 dL_law_884 dL_law_885 dL_law_886 dL_law_887 h2 ?_
  exact kont
theorem a8_baseline {p : Program} {l : Launch} {e : Env} {s : State} {m : MethodId} {below : List Frame} {meth : Method} {c : Code} {b L : Nat} {xs : Nat → Int32} {E : EnvT} {tq : Nat} {H : Heap} {locs : List Loc} {cells slots : Nat} {Q : State → Prop} {ls : Array Slot} {z : ZT} {i : Nat} {x1 : Int32} (C : LC p s m c b L xs E tq) (hl : lv_has ls 4 (lvL b z i)) (hi : i + 5 ≤ L) (hS : va_S (AA s) s.heap H locs) (h1 : xs (i + 1) = x1)
    (kont : W p l e room_1 s m #[Value.ref b] below meth c H locs cells slots Q (F0 m 901 ls (.int x1 :: .ref z.g0 :: []))) : W p l e room_1 s m #[Value.ref b] below meth c H locs cells slots Q (F0 m 895 ls []) := by
  refine lv_aload_n C.hx C.hb dL_law_895 rfl (lv_at hl 1 rfl) ?_
  refine ldA (k := 1) C hl hi hS (by omega) (by decide) dL_law_896 dL_law_897 dL_law_898 dL_law_899 dL_law_900 h1 ?_
  exact kont
theorem a9_baseline {p : Program} {l : Launch} {e : Env} {s : State} {m : MethodId} {below : List Frame} {meth : Method} {c : Code} {b L : Nat} {xs : Nat → Int32} {E : EnvT} {tq : Nat} {H : Heap} {locs : List Loc} {cells slots : Nat} {Q : State → Prop} {ls : Array Slot} {z : ZT} {i : Nat} {x1 : Int32} (C : LC p s m c b L xs E tq) (hl : lv_has ls 4 (lvL b z i)) (hi : i + 5 ≤ L) (hS : va_S (AA s) s.heap H locs) (h1 : xs (i + 1) = x1)
    (kont : W p l e room_1 s m #[Value.ref b] below meth c H locs cells slots Q (F0 m 911 ls (.int x1 :: .ref z.m0 :: []))) : W p l e room_1 s m #[Value.ref b] below meth c H locs cells slots Q (F0 m 905 ls []) := by
  refine lv_aload_n C.hx C.hb dL_law_905 rfl (lv_at hl 2 rfl) ?_
  refine ldA (k := 1) C hl hi hS (by omega) (by decide) dL_law_906 dL_law_907 dL_law_908 dL_law_909 dL_law_910 h1 ?_
  exact kont
theorem a8_warned {p : Program} {l : Launch} {e : Env} {s : State} {m : MethodId} {below : List Frame} {meth : Method} {c : Code} {b L : Nat} {xs : Nat → Int32} {E : EnvT} {tq : Nat} {H : Heap} {locs : List Loc} {cells slots : Nat} {Q : State → Prop} {ls : Array Slot} {z : ZT} {i : Nat} {x1 : Int32} (C : LC p s m c b L xs E tq) (hl : lv_has ls 4 (lvL b z i)) (hi : i + 5 ≤ L) (hS : va_S (AA s) s.heap H locs) (h1 : xs (i + 1) = x1)
    (kont : W p l e room_1 s m #[Value.ref b] below meth c H locs cells slots Q (F0 m 924 ls (.int x1 :: .ref z.g0 :: []))) : W p l e room_1 s m #[Value.ref b] below meth c H locs cells slots Q (F0 m 918 ls []) := by
  refine lv_aload_n C.hx C.hb dL_law_918 rfl (lv_at hl 1 rfl) ?_
  refine ldA (k := 1) C hl hi hS (by omega) (by decide) dL_law_919 dL_law_920 dL_law_921 dL_law_922 dL_law_923 h1 ?_
  exact kont
theorem a9_warned {p : Program} {l : Launch} {e : Env} {s : State} {m : MethodId} {below : List Frame} {meth : Method} {c : Code} {b L : Nat} {xs : Nat → Int32} {E : EnvT} {tq : Nat} {H : Heap} {locs : List Loc} {cells slots : Nat} {Q : State → Prop} {ls : Array Slot} {z : ZT} {i : Nat} {x1 : Int32} (C : LC p s m c b L xs E tq) (hl : lv_has ls 4 (lvL b z i)) (hi : i + 5 ≤ L) (hS : va_S (AA s) s.heap H locs) (h1 : xs (i + 1) = x1)
    (kont : W p l e room_1 s m #[Value.ref b] below meth c H locs cells slots Q (F0 m 934 ls (.int x1 :: .ref z.m0 :: []))) : W p l e room_1 s m #[Value.ref b] below meth c H locs cells slots Q (F0 m 928 ls []) := by
  refine lv_aload_n C.hx C.hb dL_law_928 rfl (lv_at hl 2 rfl) ?_
  refine ldA (k := 1) C hl hi hS (by omega) (by decide) dL_law_929 dL_law_930 dL_law_931 dL_law_932 dL_law_933 h1 ?_
  exact kont
theorem a8_repair {p : Program} {l : Launch} {e : Env} {s : State} {m : MethodId} {below : List Frame} {meth : Method} {c : Code} {b L : Nat} {xs : Nat → Int32} {E : EnvT} {tq : Nat} {H : Heap} {locs : List Loc} {cells slots : Nat} {Q : State → Prop} {ls : Array Slot} {z : ZT} {i : Nat} (C : LC p s m c b L xs E tq) (hl : lv_has ls 4 (lvL b z i)) (hi : i + 5 ≤ L) (hS : va_S (AA s) s.heap H locs) 
    (kont : W p l e room_1 s m #[Value.ref b] below meth c H locs cells slots Q (F0 m 942 ls (.ref z.g0 :: []))) : W p l e room_1 s m #[Value.ref b] below meth c H locs cells slots Q (F0 m 941 ls []) := by
  refine lv_aload_n C.hx C.hb dL_law_941 rfl (lv_at hl 1 rfl) ?_
  exact kont
theorem a9_repair {p : Program} {l : Launch} {e : Env} {s : State} {m : MethodId} {below : List Frame} {meth : Method} {c : Code} {b L : Nat} {xs : Nat → Int32} {E : EnvT} {tq : Nat} {H : Heap} {locs : List Loc} {cells slots : Nat} {Q : State → Prop} {ls : Array Slot} {z : ZT} {i : Nat} (C : LC p s m c b L xs E tq) (hl : lv_has ls 4 (lvL b z i)) (hi : i + 5 ≤ L) (hS : va_S (AA s) s.heap H locs) 
    (kont : W p l e room_1 s m #[Value.ref b] below meth c H locs cells slots Q (F0 m 947 ls (.ref z.m0 :: []))) : W p l e room_1 s m #[Value.ref b] below meth c H locs cells slots Q (F0 m 946 ls []) := by
  refine lv_aload_n C.hx C.hb dL_law_946 rfl (lv_at hl 2 rfl) ?_
  exact kont
