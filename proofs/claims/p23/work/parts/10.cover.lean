/-! covers: the fewest of a list of masks that cover a mask, and which are taken -/
def mdf (m e : Nat) : Nat := m ^^^ (m &&& e)
theorem mdf_bit (m e i : Nat) : (mdf m e).testBit i = (m.testBit i && !e.testBit i) := by
  simp only [mdf, Nat.testBit_xor, Nat.testBit_and]
  cases m.testBit i <;> cases e.testBit i <;> rfl
theorem mdf_le (m e : Nat) : mdf m e ≤ m := by
  have h : m &&& mdf m e = mdf m e := Nat.eq_of_testBit_eq (fun i => by
    rw [Nat.testBit_and, mdf_bit]; cases m.testBit i <;> cases e.testBit i <;> rfl)
  rw [← h]; exact Nat.and_le_left
theorem mdf_lt {m e b : Nat} (h1 : m.testBit b = true) (h2 : e.testBit b = true) : mdf m e < m := by
  rcases Nat.lt_or_ge (mdf m e) m with h | h
  · exact h
  · have e1 : mdf m e = m := Nat.le_antisymm (mdf_le m e) h
    have h3 := mdf_bit m e b
    rw [e1, h1, h2] at h3
    exact absurd h3 (by decide)
theorem mdf_comm (m a b : Nat) : mdf (mdf m a) b = mdf (mdf m b) a := Nat.eq_of_testBit_eq (fun i => by
  simp only [mdf_bit]; cases m.testBit i <;> cases a.testBit i <;> cases b.testBit i <;> rfl)
theorem mdf_idem (m a : Nat) : mdf (mdf m a) a = mdf m a := Nat.eq_of_testBit_eq (fun i => by
  simp only [mdf_bit]; cases m.testBit i <;> cases a.testBit i <;> rfl)
theorem mdf_0 (m : Nat) : mdf m 0 = m := Nat.eq_of_testBit_eq (fun i => by
  simp only [mdf_bit, Nat.zero_testBit]; cases m.testBit i <;> rfl)
theorem mdf_z (e : Nat) : mdf 0 e = 0 := by simp [mdf]
def Hf : List Nat → Nat → Nat
  | [], m => if m = 0 then 0 else 1000
  | e :: es, m => if 1 + Hf es (mdf m e) < Hf es m then 1 + Hf es (mdf m e) else Hf es m
theorem Hf_cons (e : Nat) (es : List Nat) (m : Nat) : Hf (e :: es) m ≤ Hf es m ∧ Hf (e :: es) m ≤ 1 + Hf es (mdf m e) ∧ (Hf (e :: es) m = Hf es m ∨ Hf (e :: es) m = 1 + Hf es (mdf m e)) := by
  simp only [Hf]; split <;> omega
theorem Hf_1000 : ∀ (es : List Nat) (m : Nat), Hf es m ≤ 1000
  | [], m => by simp only [Hf]; split <;> omega
  | e :: es, m => Nat.le_trans (Hf_cons e es m).1 (Hf_1000 es m)
theorem Hf_z : ∀ es : List Nat, Hf es 0 = 0
  | [] => rfl
  | e :: es => by have h := (Hf_cons e es 0).1; rw [Hf_z es] at h; omega
theorem Hf_pos : ∀ (es : List Nat) (m : Nat), Hf es m = 0 → m = 0
  | [], m, h => by
    simp only [Hf] at h; split at h
    · assumption
    · omega
  | e :: es, m, h => by
    rcases (Hf_cons e es m).2.2 with h1 | h1
    · exact Hf_pos es m (by omega)
    · omega
theorem Hf_le1 {e : Nat} : ∀ (es : List Nat) (m : Nat), e ∈ es → Hf es m ≤ 1 + Hf es (mdf m e)
  | x :: xs, m, h => by
    have c0 := Hf_cons x xs m
    have c1 := Hf_cons x xs (mdf m e)
    rcases List.mem_cons.mp h with h1 | h1
    · subst h1
      rw [mdf_idem] at c1
      omega
    · have i0 := Hf_le1 xs m h1
      have i1 := Hf_le1 xs (mdf m x) h1
      rw [mdf_comm] at i1
      omega
theorem Hf_ex {b : Nat} : ∀ (es : List Nat) (m : Nat), m.testBit b = true → Hf es m = 1000 ∨ ∃ e ∈ es, e.testBit b = true ∧ 1 + Hf es (mdf m e) ≤ Hf es m
  | [], m, h => by
    refine Or.inl ?_
    simp only [Hf]; rw [if_neg]
    intro e; rw [e] at h; simp at h
  | x :: xs, m, h => by
    have c0 := Hf_cons x xs m
    by_cases g : 1 + Hf xs (mdf m x) < Hf xs m
    · have e0 : Hf (x :: xs) m = 1 + Hf xs (mdf m x) := by simp only [Hf]; rw [if_pos g]
      refine Or.inr ?_
      by_cases hb : x.testBit b = true
      · refine ⟨x, List.mem_cons_self, hb, ?_⟩
        have c1 := Hf_cons x xs (mdf m x)
        omega
      · have h2 : (mdf m x).testBit b = true := by rw [mdf_bit, h]; simp [hb]
        have h9 := Hf_1000 xs m
        rcases Hf_ex xs (mdf m x) h2 with h3 | ⟨e, he, hb2, h4⟩
        · omega
        · refine ⟨e, List.mem_cons_of_mem _ he, hb2, ?_⟩
          have c1 := Hf_cons x xs (mdf m e)
          rw [mdf_comm] at h4
          omega
    · have e0 : Hf (x :: xs) m = Hf xs m := by simp only [Hf]; rw [if_neg g]
      rcases Hf_ex xs m h with h3 | ⟨e, he, hb2, h4⟩
      · exact Or.inl (by omega)
      · refine Or.inr ⟨e, List.mem_cons_of_mem _ he, hb2, ?_⟩
        have c1 := Hf_cons x xs (mdf m e)
        omega
theorem lt_bits {m k : Nat} (h : ∀ i, k ≤ i → m.testBit i = false) : m < 2 ^ k := Nat.lt_pow_two_of_testBit m (fun i hi => h i hi)
theorem bit_of {m : Nat} (h : m ≠ 0) : ∃ b, m.testBit b = true := by
  rcases Classical.em (∃ b, m.testBit b = true) with g | g
  · exact g
  · exfalso; apply h
    exact Nat.eq_of_testBit_eq (fun i => by
      rw [Nat.zero_testBit]
      cases e : m.testBit i with
      | false => rfl
      | true => exact absurd ⟨i, e⟩ g)
theorem Hf_feas (es : List Nat) : ∀ (k m : Nat), (∀ b, m.testBit b = true → ∃ e ∈ es, e.testBit b = true) → m < 2 ^ k → Hf es m ≤ k
  | 0, m, _, h => by
    have e : m = 0 := by simp at h; exact h
    rw [e, Hf_z]; exact Nat.le_refl 0
  | k + 1, m, hb, h => by
    cases g : m.testBit k with
    | false =>
      have h2 : m < 2 ^ k := lt_bits (fun i hi => by
        rcases Nat.eq_or_lt_of_le hi with e | e
        · rw [← e]; exact g
        · exact Nat.testBit_lt_two_pow (Nat.lt_of_lt_of_le h (Nat.pow_le_pow_right (by omega) e)))
      exact Nat.le_succ_of_le (Hf_feas es k m hb h2)
    | true =>
      obtain ⟨e, he, h1⟩ := hb k g
      have h2 : mdf m e < 2 ^ k := lt_bits (fun i hi => by
        rw [mdf_bit]
        rcases Nat.eq_or_lt_of_le hi with e1 | e1
        · rw [← e1, h1]; simp
        · rw [Nat.testBit_lt_two_pow (Nat.lt_of_lt_of_le h (Nat.pow_le_pow_right (by omega) e1))]; rfl)
      have h3 := Hf_feas es k (mdf m e) (fun b h9 => hb b (by rw [mdf_bit] at h9; simp at h9; exact h9.1)) h2
      have h4 := Hf_le1 es m he
      omega
theorem Hf_app_le : ∀ (pre suf : List Nat) (m : Nat), Hf (pre ++ suf) m ≤ Hf suf m
  | [], _, _ => Nat.le_refl _
  | x :: xs, suf, m => Nat.le_trans (Hf_cons x (xs ++ suf) m).1 (Hf_app_le xs suf m)
theorem Hf_suf (pre suf : List Nat) : ∀ (k m : Nat), Hf (pre ++ suf) m = k → k ≠ 1000 → (∀ e ∈ pre, Hf (pre ++ suf) m ≤ Hf (pre ++ suf) (mdf m e)) → Hf (pre ++ suf) m = Hf suf m
  | 0, m, h, _, _ => by
    have e := Hf_pos _ m h
    subst e; rw [Hf_z, Hf_z]
  | k + 1, m, h, hk, hi => by
    have hm : m ≠ 0 := fun e => by rw [e, Hf_z] at h; omega
    obtain ⟨b, hb⟩ := bit_of hm
    rcases Hf_ex (pre ++ suf) m hb with h1 | ⟨e, he, _, h2⟩
    · omega
    · have h3 := Hf_le1 (pre ++ suf) m he
      have he2 : e ∈ suf := by
        rcases List.mem_append.mp he with g | g
        · have := hi e g; omega
        · exact g
      have i1 := Hf_suf pre suf k (mdf m e) (by omega) (by have := Hf_1000 (pre ++ suf) m; omega) (fun x hx => by
        have a1 := hi x hx
        have a2 := Hf_le1 (pre ++ suf) (mdf m x) he
        rw [mdf_comm] at a2
        omega)
      have h4 := Hf_le1 suf m he2
      have h5 := Hf_app_le pre suf m
      omega
def chF (F : Nat → Nat) : List (Nat × Nat) → Nat → List Nat
  | [], _ => []
  | q :: r, o => if F (mdf o q.2) + 1 = F o then q.1 :: chF F r (mdf o q.2) else chF F r o
def mdlF : List (Nat × Nat) → Nat → List Nat
  | [], _ => []
  | q :: r, m => if q.2 ≠ 0 ∧ 1 + Hf (r.map (·.2)) (mdf m q.2) = Hf (q.2 :: r.map (·.2)) m then q.1 :: mdlF r (mdf m q.2) else mdlF r m
theorem ch_mdl : ∀ (suf pre : List (Nat × Nat)) (m : Nat), (∀ e ∈ pre.map (·.2), Hf (pre.map (·.2) ++ suf.map (·.2)) m ≤ Hf (pre.map (·.2) ++ suf.map (·.2)) (mdf m e)) → Hf (pre.map (·.2) ++ suf.map (·.2)) m ≠ 1000 → chF (Hf (pre.map (·.2) ++ suf.map (·.2))) suf m = mdlF suf m
  | [], _, _, _, _ => rfl
  | q :: r, pre, m, hi, hm => by
    have eL : pre.map (·.2) ++ (q :: r).map (·.2) = (pre ++ [q]).map (·.2) ++ r.map (·.2) := by simp
    have e0 := Hf_suf (pre.map (·.2)) ((q :: r).map (·.2)) _ m rfl hm hi
    have hq : q.2 ∈ pre.map (·.2) ++ (q :: r).map (·.2) := by simp
    have h1 := Hf_le1 _ m hq
    have hN := Hf_1000 (pre.map (·.2) ++ (q :: r).map (·.2)) m
    simp only [chF, mdlF]
    by_cases g : Hf (pre.map (·.2) ++ (q :: r).map (·.2)) (mdf m q.2) + 1 = Hf (pre.map (·.2) ++ (q :: r).map (·.2)) m
    · have hi2 : ∀ e ∈ (pre ++ [q]).map (·.2), Hf ((pre ++ [q]).map (·.2) ++ r.map (·.2)) (mdf m q.2) ≤ Hf ((pre ++ [q]).map (·.2) ++ r.map (·.2)) (mdf (mdf m q.2) e) := by
        intro e he
        rw [← eL]
        rw [List.map_append, List.mem_append] at he
        rcases he with he | he
        · have a1 := hi e he
          have a2 := Hf_le1 _ (mdf m e) hq
          rw [mdf_comm] at a2
          omega
        · simp at he; rw [he, mdf_idem]; exact Nat.le_refl _
      have hm2 : Hf ((pre ++ [q]).map (·.2) ++ r.map (·.2)) (mdf m q.2) ≠ 1000 := by rw [← eL]; omega
      have e1 := Hf_suf ((pre ++ [q]).map (·.2)) (r.map (·.2)) _ (mdf m q.2) rfl hm2 hi2
      have ih := ch_mdl r (pre ++ [q]) (mdf m q.2) hi2 hm2
      rw [← eL] at e1 ih
      have hq0 : q.2 ≠ 0 := fun e => by rw [e, mdf_0] at g; omega
      have key : 1 + Hf (r.map (·.2)) (mdf m q.2) = Hf (q.2 :: r.map (·.2)) m := by
        simp only [List.map_cons] at e0 e1 g
        omega
      rw [if_pos g, if_pos ⟨hq0, key⟩, ih]
    · have hi2 : ∀ e ∈ (pre ++ [q]).map (·.2), Hf ((pre ++ [q]).map (·.2) ++ r.map (·.2)) m ≤ Hf ((pre ++ [q]).map (·.2) ++ r.map (·.2)) (mdf m e) := by
        intro e he
        rw [← eL]
        rw [List.map_append, List.mem_append] at he
        rcases he with he | he
        · exact hi e he
        · simp at he; rw [he]; omega
      have hm2 : Hf ((pre ++ [q]).map (·.2) ++ r.map (·.2)) m ≠ 1000 := by rw [← eL]; exact hm
      have ih := ch_mdl r (pre ++ [q]) m hi2 hm2
      rw [← eL] at ih
      rw [if_neg g, if_neg, ih]
      rintro ⟨_, h9⟩
      have a1 := Hf_app_le ((pre ++ [q]).map (·.2)) (r.map (·.2)) (mdf m q.2)
      rw [← eL] at a1
      rw [List.map_cons] at e0
      rw [← e0] at h9
      rw [List.map_cons] at g h1 a1
      omega
theorem mdl_len : ∀ (l : List (Nat × Nat)) (m : Nat), Hf (l.map (·.2)) m ≠ 1000 → (mdlF l m).length = Hf (l.map (·.2)) m
  | [], m, h => by
    simp only [List.map_nil, Hf] at h ⊢
    split at h
    · rw [if_pos ‹_›]; rfl
    · exact absurd rfl h
  | q :: r, m, h => by
    rw [List.map_cons] at h
    have c0 := Hf_cons q.2 (r.map (·.2)) m
    have hN := Hf_1000 (q.2 :: r.map (·.2)) m
    simp only [mdlF, List.map_cons]
    split
    · rename_i g
      rw [List.length_cons, mdl_len r (mdf m q.2) (by omega)]; omega
    · rename_i g
      have e1 : Hf (q.2 :: r.map (·.2)) m = Hf (r.map (·.2)) m := by
        rcases c0.2.2 with h1 | h1
        · exact h1
        · by_cases hq : q.2 = 0
          · rw [hq, mdf_0] at h1
            have := c0.1; rw [hq] at this
            omega
          · exact absurd ⟨hq, h1.symm⟩ g
      rw [mdl_len r m (by omega), e1]
/-- parts with nothing to explain are never taken, and change nothing -/
theorem Hf_drop : ∀ (l : List Nat) (m : Nat), Hf (l.filter (fun e => decide (e ≠ 0))) m = Hf l m
  | [], _ => rfl
  | e :: es, m => by
    by_cases h : e = 0
    · subst h
      rw [List.filter_cons_of_neg (by simp), Hf_drop es m]
      simp only [Hf, mdf_0]; rw [if_neg (by omega)]
    · rw [List.filter_cons_of_pos (by simpa using h)]
      simp only [Hf]; rw [Hf_drop es m, Hf_drop es (mdf m e)]
theorem ch_drop (F : Nat → Nat) : ∀ (l : List (Nat × Nat)) (o : Nat), chF F (l.filter (fun q => decide (q.2 ≠ 0))) o = chF F l o
  | [], _ => rfl
  | q :: r, o => by
    by_cases h : q.2 = 0
    · rw [List.filter_cons_of_neg (by simp [h]), ch_drop F r o]
      simp only [chF]; rw [h, mdf_0, if_neg (by omega)]
    · rw [List.filter_cons_of_pos (by simpa using h)]
      simp only [chF]; rw [ch_drop F r, ch_drop F r]
theorem ch_zero {F : Nat → Nat} (h : F 0 = 0) : ∀ l : List (Nat × Nat), chF F l 0 = []
  | [] => rfl
  | q :: r => by simp only [chF]; rw [mdf_z, h, if_neg (by omega)]; exact ch_zero h r
