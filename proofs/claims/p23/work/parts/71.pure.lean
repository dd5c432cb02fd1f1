/-! pure rows between both sides -/
theorem cnt_mono {p q : Nat → Bool} : ∀ n, (∀ i, i < n → p i = true → q i = true) → cnt p n ≤ cnt q n
  | 0, _ => Nat.le_refl _
  | n + 1, h => by
    have ih := cnt_mono n (fun i hi => h i (by omega))
    simp only [cnt]
    by_cases hp : p n = true
    · rw [if_pos hp, if_pos (h n (by omega) hp)]; omega
    · rw [if_neg hp]; omega
theorem cnt_cmp {p q : Nat → Bool} : ∀ n, (∀ i, i < n → p i = !q i) → cnt p n + cnt q n = n
  | 0, _ => rfl
  | n + 1, h => by
    have ih := cnt_cmp n (fun i hi => h i (by omega))
    have e := h n (by omega)
    simp only [cnt]
    cases hq : q n <;> rw [hq] at e <;> simp [e] <;> omega
theorem cnt_or {p q : Nat → Bool} {k : Nat} : ∀ n, k < n → p k = false → (∀ i, i < n → q i = (p i || decide (i = k))) → cnt q n = cnt p n + 1
  | 0, h, _, _ => absurd h (Nat.not_lt_zero k)
  | n + 1, hk, hp, h => by
    have e := h n (by omega)
    simp only [cnt]
    by_cases ek : k = n
    · subst ek
      have h0 : cnt q k = cnt p k := by
        have a1 := cnt_mono (p := q) (q := p) k (fun i hi h9 => by
          rw [h i (by omega)] at h9
          simpa [show ¬ i = k by omega] using h9)
        have a2 := cnt_mono (p := p) (q := q) k (fun i hi h9 => by rw [h i (by omega), h9]; rfl)
        omega
      rw [h0, e, hp]; simp
    · have ih := cnt_or (p := p) (q := q) n (by omega) hp (fun i hi => h i (by omega))
      rw [ih, e]
      simp [show ¬ n = k by omega]; omega
theorem pRk_key (g : Nat → Int32) (k i : Nat) (hi : i < 5) (hk : k < 5) : pRk g k i = decide ((g i).toInt * 8 + i < (g k).toInt * 8 + k) := by
  unfold pRk
  refine decide_eq_decide.mpr ?_
  rw [Int32.lt_iff_toInt_lt, ← Int32.toInt_inj]
  omega
def b2 (b : Bool) : Nat := if b then 1 else 0
def trn (a b c : Bool) : Bool := (!(a && b) || c) && ((a || b) || !c)
theorem rank2 : ∀ b01 b02 b03 b04 b12 b13 b14 b23 b24 b34 : Bool,
    (trn b01 b12 b02 && trn b01 b13 b03 && trn b01 b14 b04 && trn b02 b23 b03 && trn b02 b24 b04 && trn b03 b34 b04 && trn b12 b23 b13 && trn b12 b24 b14 && trn b13 b34 b14 && trn b23 b34 b24) = true →
    (b2 (!b01) + b2 (!b02) + b2 (!b03) + b2 (!b04) = 2 ∨ b2 b01 + b2 (!b12) + b2 (!b13) + b2 (!b14) = 2 ∨ b2 b02 + b2 b12 + b2 (!b23) + b2 (!b24) = 2 ∨ b2 b03 + b2 b13 + b2 b23 + b2 (!b34) = 2 ∨ b2 b04 + b2 b14 + b2 b24 + b2 b34 = 2) := by decide +kernel
theorem trn_i {a b c : Int} (h1 : a ≠ b) (h2 : b ≠ c) (h3 : a ≠ c) : trn (decide (a < b)) (decide (b < c)) (decide (a < c)) = true := by
  unfold trn
  by_cases x : a < b <;> by_cases y : b < c <;> by_cases z : a < c <;> simp [x, y, z] <;> omega
theorem rk_ex (g : Nat → Int32) : ∃ k, k < 5 ∧ cnt (pRk g k) 5 = 2 := by
  obtain ⟨K, hK⟩ : ∃ K : Nat → Int, K = fun i => (g i).toInt * 8 + i := ⟨_, rfl⟩
  have hk : ∀ i k, i < 5 → k < 5 → pRk g k i = decide (K i < K k) := fun i k hi hk => by rw [pRk_key g k i hi hk, hK]
  have hne : ∀ i k, i < 5 → k < 5 → i ≠ k → K i ≠ K k := fun i k hi hk h => by rw [hK]; simp only; omega
  have hc : ∀ k, k < 5 → cnt (pRk g k) 5 = b2 (decide (K 0 < K k)) + b2 (decide (K 1 < K k)) + b2 (decide (K 2 < K k)) + b2 (decide (K 3 < K k)) + b2 (decide (K 4 < K k)) := fun k h => by
    simp only [cnt, hk _ _ (show 0 < 5 by omega) h, hk _ _ (show 1 < 5 by omega) h, hk _ _ (show 2 < 5 by omega) h, hk _ _ (show 3 < 5 by omega) h, hk _ _ (show 4 < 5 by omega) h, b2]
    omega
  have hs : ∀ i k, i < 5 → k < 5 → i ≠ k → decide (K k < K i) = !decide (K i < K k) := fun i k hi hk h => by
    have := hne i k hi hk h
    by_cases x : K i < K k
    · simp [x]; omega
    · simp [x]; omega
  have hr : ∀ k, decide (K k < K k) = false := fun k => by simp
  have t : ∀ i j k, i < 5 → j < 5 → k < 5 → i ≠ j → j ≠ k → i ≠ k → trn (decide (K i < K j)) (decide (K j < K k)) (decide (K i < K k)) = true := fun i j k h1 h2 h3 h4 h5 h6 => trn_i (hne i j h1 h2 h4) (hne j k h2 h3 h5) (hne i k h1 h3 h6)
  have R := rank2 (decide (K 0 < K 1)) (decide (K 0 < K 2)) (decide (K 0 < K 3)) (decide (K 0 < K 4)) (decide (K 1 < K 2)) (decide (K 1 < K 3)) (decide (K 1 < K 4)) (decide (K 2 < K 3)) (decide (K 2 < K 4)) (decide (K 3 < K 4)) (by
    rw [t 0 1 2 (by omega) (by omega) (by omega) (by omega) (by omega) (by omega), t 0 1 3 (by omega) (by omega) (by omega) (by omega) (by omega) (by omega), t 0 1 4 (by omega) (by omega) (by omega) (by omega) (by omega) (by omega), t 0 2 3 (by omega) (by omega) (by omega) (by omega) (by omega) (by omega), t 0 2 4 (by omega) (by omega) (by omega) (by omega) (by omega) (by omega), t 0 3 4 (by omega) (by omega) (by omega) (by omega) (by omega) (by omega), t 1 2 3 (by omega) (by omega) (by omega) (by omega) (by omega) (by omega), t 1 2 4 (by omega) (by omega) (by omega) (by omega) (by omega) (by omega), t 1 3 4 (by omega) (by omega) (by omega) (by omega) (by omega) (by omega), t 2 3 4 (by omega) (by omega) (by omega) (by omega) (by omega) (by omega)]; rfl)
  have z : b2 false = 0 := rfl
  rcases R with h | h | h | h | h
  · refine ⟨0, by omega, ?_⟩
    rw [hc 0 (by omega), hr, z, hs 0 1 (by omega) (by omega) (by omega), hs 0 2 (by omega) (by omega) (by omega), hs 0 3 (by omega) (by omega) (by omega), hs 0 4 (by omega) (by omega) (by omega)]; omega
  · refine ⟨1, by omega, ?_⟩
    rw [hc 1 (by omega), hr, z, hs 1 2 (by omega) (by omega) (by omega), hs 1 3 (by omega) (by omega) (by omega), hs 1 4 (by omega) (by omega) (by omega)]; omega
  · refine ⟨2, by omega, ?_⟩
    rw [hc 2 (by omega), hr, z, hs 2 3 (by omega) (by omega) (by omega), hs 2 4 (by omega) (by omega) (by omega)]; omega
  · refine ⟨3, by omega, ?_⟩
    rw [hc 3 (by omega), hr, z, hs 3 4 (by omega) (by omega) (by omega)]; omega
  · refine ⟨4, by omega, ?_⟩
    rw [hc 4 (by omega), hr, z]; omega
theorem rk_mid {g : Nat → Int32} {k : Nat} (hk : k < 5) (h : cnt (pRk g k) 5 = 2) : okMid g k = true ∧ ∀ j, j < 5 → okMid g j = true → g j = g k := by
  have hself : pRk g k k = false := by unfold pRk; simp [Int32.lt_irrefl]
  obtain ⟨q, hq⟩ : ∃ q : Nat → Bool, q = fun i => pRk g k i || decide (i = k) := ⟨_, rfl⟩
  have h3 : cnt q 5 = 3 := by rw [cnt_or (p := pRk g k) (k := k) 5 hk hself (fun i _ => by rw [hq]), h]
  obtain ⟨r, hr⟩ : ∃ r : Nat → Bool, r = fun i => !pRk g k i := ⟨_, rfl⟩
  have h5 : cnt r 5 = 3 := by have := cnt_cmp (p := r) (q := pRk g k) 5 (fun i _ => by rw [hr]); omega
  obtain ⟨w, hw⟩ : ∃ w : Nat → Bool, w = fun i => !q i := ⟨_, rfl⟩
  have h6 : cnt w 5 = 2 := by have := cnt_cmp (p := w) (q := q) 5 (fun i _ => by rw [hw]); omega
  have lt' : ∀ {a b : Int32}, a < b ↔ a.toInt < b.toInt := Int32.lt_iff_toInt_lt
  have pr : ∀ i, pRk g k i = true ↔ ((g i).toInt < (g k).toInt ∨ (g i).toInt = (g k).toInt ∧ i < k) := fun i => by
    unfold pRk; rw [decide_eq_true_iff, lt', ← Int32.toInt_inj]
  constructor
  · unfold okMid
    have a1 : cnt (pLess g (g k) 1) 5 ≤ 2 := by
      rw [← h]; exact cnt_mono 5 (fun i _ h9 => (pr i).mpr (Or.inl (by simpa [pLess, lt'] using h9)))
    have a2 : cnt (pLess g (g k) 0) 5 ≤ 2 := by
      rw [← h6]; refine cnt_mono 5 (fun i _ h9 => ?_)
      have h8 : (g k).toInt < (g i).toInt := by simpa [pLess, lt'] using h9
      rw [hw, hq]
      simp only [Bool.not_or, Bool.and_eq_true, Bool.not_eq_true', decide_eq_false_iff_not]
      refine ⟨?_, fun e => by rw [e] at h8; omega⟩
      rw [← Bool.not_eq_true]; intro e
      rcases (pr i).mp e with x | x <;> omega
    simp [a1, a2]
  · intro j hj h9
    unfold okMid at h9
    simp only [Bool.and_eq_true, decide_eq_true_eq] at h9
    rw [← Int32.toInt_inj]
    rcases Int.lt_trichotomy (g j).toInt (g k).toInt with x | x | x
    · exfalso
      have := cnt_mono (p := r) (q := pLess g (g j) 0) 5 (fun i _ h8 => by
        rw [hr] at h8
        have h7 : ¬ pRk g k i = true := by simpa using h8
        rw [pr] at h7
        have : (g j).toInt < (g i).toInt := by omega
        simpa [pLess, lt'] using this)
      omega
    · exact x
    · exfalso
      have := cnt_mono (p := q) (q := pLess g (g j) 1) 5 (fun i _ h8 => by
        rw [hq] at h8
        have h7 : pRk g k i = true ∨ i = k := by simpa using h8
        have : (g i).toInt < (g j).toInt := by
          rcases h7 with h7 | h7
          · rcases (pr i).mp h7 with y | y <;> omega
          · rw [h7]; exact x
        simpa [pLess, lt'] using this)
      omega
theorem fMidF_eq {g : Nat → Int32} {v : Int32} : ∀ n i, (∀ j, i ≤ j → j < i + n → okMid g j = true → g j = v) → (∃ j, i ≤ j ∧ j < i + n ∧ okMid g j = true) → fMidF g n i = v
  | 0, i, _, h => by obtain ⟨j, h1, h2, _⟩ := h; omega
  | n + 1, i, ha, h => by
    simp only [fMidF]
    by_cases e : okMid g i = true
    · rw [if_pos e]; exact ha i (by omega) (by omega) e
    · rw [if_neg e]
      obtain ⟨j, h1, h2, h3⟩ := h
      exact fMidF_eq n (i + 1) (fun j h1 h2 => ha j (by omega) (by omega)) ⟨j, by rcases Nat.eq_or_lt_of_le h1 with x | x; exact absurd (x ▸ h3) e; omega, by omega, h3⟩
theorem mF_eq {g : Nat → Int32} {v : Int32} : ∀ n i, (∀ j, i ≤ j → j < i + n → cnt (pRk g j) 5 = 2 → g j = v) → (∃ j, i ≤ j ∧ j < i + n ∧ cnt (pRk g j) 5 = 2) → mF g n i = v
  | 0, i, _, h => by obtain ⟨j, h1, h2, _⟩ := h; omega
  | n + 1, i, ha, h => by
    simp only [mF]
    by_cases e : cnt (pRk g i) 5 = 2
    · rw [if_pos e]; exact ha i (by omega) (by omega) e
    · rw [if_neg e]
      obtain ⟨j, h1, h2, h3⟩ := h
      exact mF_eq n (i + 1) (fun j h1 h2 => ha j (by omega) (by omega)) ⟨j, by rcases Nat.eq_or_lt_of_le h1 with x | x; exact absurd (x ▸ h3) e; omega, by omega, h3⟩
theorem fMid_fMd (g : Nat → Int32) : fMid g = fMd g := by
  obtain ⟨k, hk, h⟩ := rk_ex g
  obtain ⟨h1, h2⟩ := rk_mid hk h
  rw [show fMid g = g k from fMidF_eq 5 0 (fun j _ hj => h2 j (by omega)) ⟨k, by omega, by omega, h1⟩]
  exact (mF_eq 5 0 (fun j _ hj h9 => h2 j (by omega) (rk_mid (by omega) h9).1) ⟨k, by omega, by omega, h⟩).symm
theorem cnt_congr {p q : Nat → Bool} : ∀ n, (∀ i, i < n → p i = q i) → cnt p n = cnt q n
  | 0, _ => rfl
  | n + 1, h => by simp only [cnt]; rw [cnt_congr n (fun i hi => h i (by omega)), h n (by omega)]
theorem mF_congr {f g : Nat → Int32} (h : ∀ i, i < 5 → f i = g i) : ∀ n k, k + n = 5 → mF f n k = mF g n k
  | 0, _, _ => rfl
  | n + 1, k, hk => by
    simp only [mF]
    rw [cnt_congr (p := pRk f k) (q := pRk g k) 5 (fun i hi => by unfold pRk; rw [h i hi, h k (by omega)]), h k (by omega), mF_congr h n (k + 1) (by omega)]
theorem fMd_congr {f g : Nat → Int32} (h : ∀ i, i < 5 → f i = g i) : fMd f = fMd g := mF_congr h 5 0 rfl
theorem up_all {f g : Nat → Int32} {a m : Int32} : ∀ (u k i : Nat), u ≤ k → (∀ j, k - u ≤ j → j < k → f j = g (j + 1 - i)) → True := fun _ _ _ _ _ => trivial
theorem allA_iff {f : Nat → Int32} {a m : Int32} : ∀ (u i : Nat), allA f a m u i = true ↔ ∀ j, i ≤ j → j < i + u → a.toInt64 * m.toInt64 < (f j).toInt64 * 100
  | 0, i => ⟨fun _ j h1 h2 => absurd h2 (by omega), fun _ => rfl⟩
  | u + 1, i => by
    simp only [allA, Bool.and_eq_true, decide_eq_true_eq]
    rw [allA_iff u (i + 1)]
    refine ⟨fun h j h1 h2 => ?_, fun h => ⟨h i (by omega) (by omega), fun j h1 h2 => h j (by omega) (by omega)⟩⟩
    rcases Nat.eq_or_lt_of_le h1 with x | x
    · rw [← x]; exact h.1
    · exact h.2 j (by omega) (by omega)
theorem upF_iff {g : Nat → Int32} {a m : Int32} {n : Nat} : ∀ (u i : Nat), upF g a m n u i = true ↔ ∀ j, i ≤ j → j < i + u → a.toInt64 * m.toInt64 < 100 * (g (n - j)).toInt64
  | 0, i => ⟨fun _ j h1 h2 => absurd h2 (by omega), fun _ => rfl⟩
  | u + 1, i => by
    simp only [upF, Bool.and_eq_true, decide_eq_true_eq]
    rw [upF_iff u (i + 1)]
    refine ⟨fun h j h1 h2 => ?_, fun h => ⟨h i (by omega) (by omega), fun j h1 h2 => h j (by omega) (by omega)⟩⟩
    rcases Nat.eq_or_lt_of_le h1 with x | x
    · rw [← x]; exact h.1
    · exact h.2 j (by omega) (by omega)
theorem fJ_eq {f g : Nat → Int32} {n u : Nat} {a b mid base wr v : Int32} (hu : u ≤ n) (hn : 1 ≤ n) (hf : ∀ j, j < n → f j = g j) (hv : g (n - 1) = v) (hm : 5 < n → mid = base) (hw : wr = 0 ∨ wr = 1) : fJud f n u a b mid wr = fJm g n u a b base wr v := by
  unfold fJud fJm
  by_cases h5 : n ≤ 5
  · rw [if_pos h5, if_pos h5]
  · rw [if_neg h5, if_neg h5, hm (by omega)]
    have e : (5 + u ≤ n ∧ allA f a base u (n - u) = true) ↔ (decide (5 + u ≤ n) && upF g a base n u 1) = true := by
      rw [Bool.and_eq_true, decide_eq_true_eq, allA_iff, upF_iff]
      refine and_congr_right (fun _ => ⟨fun h j h1 h2 => ?_, fun h j h1 h2 => ?_⟩)
      · have := h (n - j) (by omega) (by omega)
        rw [hf _ (by omega), Int64.mul_comm _ 100] at this; exact this
      · have := h (n - j) (by omega) (by omega)
        rw [show n - (n - j) = j by omega] at this
        rw [hf _ (by omega), Int64.mul_comm _ 100]; exact this
    by_cases c : (5 + u ≤ n ∧ allA f a base u (n - u) = true)
    · rw [if_pos c, if_pos (e.mp c)]
    · rw [if_neg c, if_neg (fun h => c (e.mpr h)), hf _ (by omega), hv, Int64.mul_comm _ 100]
      by_cases c2 : 100 * v.toInt64 < b.toInt64 * base.toInt64
      · rw [if_pos c2, if_neg (fun h => h.2 c2)]
      · rw [if_neg c2]
        rcases hw with rfl | rfl
        · rw [if_neg (fun h => h.1 rfl)]
        · rw [if_pos ⟨by decide, c2⟩]
theorem fJm_01 {g : Nat → Int32} {n u : Nat} {a b base W v : Int32} (hw : W = 0 ∨ W = 1) : fJm g n u a b base W v = 0 ∨ fJm g n u a b base W v = 1 := by
  unfold fJm
  by_cases h5 : n ≤ 5
  · rw [if_pos h5]; exact hw
  · rw [if_neg h5]
    split
    · exact Or.inr rfl
    · split
      · exact Or.inr rfl
      · exact Or.inl rfl
theorem bmod_id {x : Int} {n : Nat} (h1 : -(n : Int) ≤ 2 * x) (h2 : 2 * x < n) : x.bmod n = x := by
  rw [Int.bmod_def]
  rcases Int.lt_or_le x 0 with h | h
  · rw [show x % (n : Int) = x + n from by rw [← Int.add_emod_right, Int.emod_eq_of_lt (by omega) (by omega)]]
    rw [if_neg (by omega)]; omega
  · rw [Int.emod_eq_of_lt h (by omega), if_pos (by omega)]
theorem i16 {v : Int32} (h1 : (-30000) ≤ v) (h2 : v ≤ 30000) : v.toInt16.toInt32 = v := by
  rw [Int32.le_iff_toInt_le] at h1 h2
  rw [show (-30000 : Int32).toInt = -30000 from by decide] at h1
  rw [show (30000 : Int32).toInt = 30000 from by decide] at h2
  rw [← Int32.toInt_inj, Int16.toInt_toInt32, Int32.toInt_toInt16]
  exact bmod_id (by omega) (by omega)
theorem shl24 (x : BitVec 32) : (x <<< 24).sshiftRight 24 = (x.setWidth 8).signExtend 32 := by
  ext i hi
  simp only [BitVec.getElem_sshiftRight, BitVec.getElem_signExtend, BitVec.getElem_shiftLeft, BitVec.msb_eq_getLsbD_last, BitVec.getLsbD_setWidth, BitVec.getElem_setWidth, BitVec.getLsbD_shiftLeft]
  by_cases h : i < 8
  · simp [h, show 24 + i < 32 by omega, show ¬ 24 + i < 24 by omega]
    exact (BitVec.getLsbD_eq_getElem hi).symm
  · simp [h, show ¬ 24 + i < 32 by omega]
theorem i8 (v : Int32) : (v <<< ((24 : Int32) &&& 31)) >>> ((24 : Int32) &&& 31) = v.toInt8.toInt32 := by
  rw [← Int32.toBitVec_inj, Int8.toBitVec_toInt32, Int32.toBitVec_toInt8, BitVec.signExtend_eq_setWidth_of_le _ (show 8 ≤ 32 by omega), ← shl24]
  rfl
theorem fPut_fPM {l v : Int32} (hl : 0 ≤ l ∧ l ≤ 2) (h1 : (-30000) ≤ v) (h2 : v ≤ 30000) : fPut l v = fPM l v := by
  unfold fPut fPM
  by_cases c : l = 0
  · rw [if_pos c, if_pos c, i8]
  · rw [if_neg c, if_neg c]
    by_cases c1 : l = 1
    · rw [if_pos c1, i16 h1 h2]
    · rw [if_neg c1]
theorem fPM_in {l v : Int32} (h1 : (-30000) ≤ v) (h2 : v ≤ 30000) : -30000 ≤ (fPM l v).toInt ∧ (fPM l v).toInt ≤ 30000 := by
  unfold fPM
  by_cases c : l = 0
  · rw [if_pos c, i8, Int8.toInt_toInt32]
    have a := Int8.le_toInt v.toInt8
    have b := Int8.toInt_lt v.toInt8
    omega
  · rw [if_neg c]
    rw [Int32.le_iff_toInt_le] at h1 h2
    rw [show (-30000 : Int32).toInt = -30000 from by decide] at h1
    rw [show (30000 : Int32).toInt = 30000 from by decide] at h2
    exact ⟨h1, h2⟩
theorem xor_neg {x y : Int32} (hy : 0 < y.toInt) : x ^^^ y < 0 ↔ x.toInt < 0 := by
  rw [Int32.lt_iff_toInt_lt, show (0 : Int32).toInt = 0 from rfl]
  have h : ∀ z : Int32, (z.toBitVec.msb = true) ↔ z.toInt < 0 := fun z => by rw [BitVec.msb_eq_toInt, decide_eq_true_iff]; rfl
  rw [← h, ← h, Int32.toBitVec_xor, BitVec.msb_xor]
  have : y.toBitVec.msb = false := by
    rw [← Bool.not_eq_true, h]; omega
  rw [this, Bool.xor_false]
theorem tdiv_fl {x y : Int} (hy : 0 < y) : (if x < 0 ∧ ¬ x.tdiv y * y = x then x.tdiv y - 1 else x.tdiv y) = x / y := by
  have e := Int.tdiv_eq_ediv (a := x) (b := y)
  have s : y.sign = 1 := Int.sign_eq_one_of_pos hy
  rw [s] at e
  by_cases c : x < 0 ∧ ¬ x.tdiv y * y = x
  · rw [if_pos c]
    rw [if_neg (fun h => by
      rcases h with h | h
      · omega
      · exact c.2 (Int.tdiv_mul_cancel h))] at e
    omega
  · rw [if_neg c]
    rw [if_pos (by
      by_cases h : 0 ≤ x
      · exact Or.inl h
      · refine Or.inr ?_
        have h2 : x.tdiv y * y = x := Decidable.byContradiction (fun h3 => c ⟨by omega, h3⟩)
        exact ⟨x.tdiv y, by rw [Int.mul_comm]; exact h2.symm⟩)] at e
    omega
theorem tdiv_abs {x y : Int} (hy : 0 < y) : (x.tdiv y).natAbs ≤ x.natAbs ∧ (x.tdiv y * y).natAbs ≤ x.natAbs := by
  rw [Int.natAbs_tdiv]
  refine ⟨Nat.div_le_self _ _, ?_⟩
  rw [Int.natAbs_mul, Int.natAbs_tdiv]
  exact Nat.div_mul_le_self _ _
theorem fFD_int {x y : Int32} (hy : 0 < y.toInt) (hx : -1000000000 ≤ x.toInt ∧ x.toInt ≤ 1000000000) : (fFD x y).toInt = x.toInt / y.toInt := by
  have hd : (x / y).toInt = x.toInt.tdiv y.toInt := by
    rw [Int32.toInt_div]
    have := (tdiv_abs (x := x.toInt) hy).1
    exact bmod_id (by omega) (by omega)
  have hm : (x / y * y).toInt = x.toInt.tdiv y.toInt * y.toInt := by
    rw [Int32.toInt_mul, hd]
    have := (tdiv_abs (x := x.toInt) hy).2
    exact bmod_id (by omega) (by omega)
  have hs : (x / y - 1).toInt = x.toInt.tdiv y.toInt - 1 := by
    rw [Int32.toInt_sub, hd, show (1 : Int32).toInt = 1 from rfl]
    have := (tdiv_abs (x := x.toInt) hy).1
    exact bmod_id (by omega) (by omega)
  rw [← tdiv_fl hy]
  unfold fFD
  have e : (x ^^^ y < 0 ∧ ¬ x / y * y = x) ↔ (x.toInt < 0 ∧ ¬ x.toInt.tdiv y.toInt * y.toInt = x.toInt) := by
    rw [xor_neg hy, ← Int32.toInt_inj, hm]
  by_cases c : x ^^^ y < 0 ∧ ¬ x / y * y = x
  · rw [if_pos c, if_pos (e.mp c), hs]
  · rw [if_neg c, if_neg (fun h => c (e.mpr h)), hd]
theorem fDn_int {x y : Int64} (hy : 0 < y.toInt) (hx : -1000000000000 ≤ x.toInt ∧ x.toInt ≤ 1000000000000) : (fDn x y).toInt = x.toInt / y.toInt := by
  have hd : (x / y).toInt = x.toInt.tdiv y.toInt := by
    rw [Int64.toInt_div]
    have := (tdiv_abs (x := x.toInt) hy).1
    exact bmod_id (by omega) (by omega)
  have hm : (x / y * y).toInt = x.toInt.tdiv y.toInt * y.toInt := by
    rw [Int64.toInt_mul, hd]
    have := (tdiv_abs (x := x.toInt) hy).2
    exact bmod_id (by omega) (by omega)
  have hs : (x / y - 1).toInt = x.toInt.tdiv y.toInt - 1 := by
    rw [Int64.toInt_sub, hd, show (1 : Int64).toInt = 1 from rfl]
    have := (tdiv_abs (x := x.toInt) hy).1
    exact bmod_id (by omega) (by omega)
  have hz : x - x / y * y = 0 ↔ x.toInt.tdiv y.toInt * y.toInt = x.toInt := by
    rw [← hm, Int64.toInt_inj]
    constructor
    · intro h
      have h2 := Int64.sub_add_cancel x (x / y * y)
      rw [h, Int64.zero_add] at h2; exact h2
    · intro h; rw [h, Int64.sub_self]
  rw [← tdiv_fl hy]
  unfold fDn
  have e : (¬ x - x / y * y = 0 ∧ x < 0) ↔ (x.toInt < 0 ∧ ¬ x.toInt.tdiv y.toInt * y.toInt = x.toInt) := by
    rw [hz, Int64.lt_iff_toInt_lt, show (0 : Int64).toInt = 0 from rfl]; exact And.comm
  by_cases c : ¬ x - x / y * y = 0 ∧ x < 0
  · rw [if_pos c, if_pos (e.mp c), hs]
  · rw [if_neg c, if_neg (fun h => c (e.mpr h)), hd]
theorem add32 {x y : Int32} (h : -2000000000 ≤ x.toInt + y.toInt ∧ x.toInt + y.toInt ≤ 2000000000) : (x + y).toInt = x.toInt + y.toInt := by
  rw [Int32.toInt_add]; exact bmod_id (by omega) (by omega)
theorem sub32 {x y : Int32} (h : -2000000000 ≤ x.toInt - y.toInt ∧ x.toInt - y.toInt ≤ 2000000000) : (x - y).toInt = x.toInt - y.toInt := by
  rw [Int32.toInt_sub]; exact bmod_id (by omega) (by omega)
theorem mul32 {x y : Int32} (h : -2000000000 ≤ x.toInt * y.toInt ∧ x.toInt * y.toInt ≤ 2000000000) : (x * y).toInt = x.toInt * y.toInt := by
  rw [Int32.toInt_mul]; exact bmod_id (by omega) (by omega)
theorem add64 {x y : Int64} (h : -2000000000000 ≤ x.toInt + y.toInt ∧ x.toInt + y.toInt ≤ 2000000000000) : (x + y).toInt = x.toInt + y.toInt := by
  rw [Int64.toInt_add]; exact bmod_id (by omega) (by omega)
theorem mul64 {x y : Int64} (h : -2000000000000 ≤ x.toInt * y.toInt ∧ x.toInt * y.toInt ≤ 2000000000000) : (x * y).toInt = x.toInt * y.toInt := by
  rw [Int64.toInt_mul]; exact bmod_id (by omega) (by omega)
theorem mbd {a b A B : Int} (ha : -A ≤ a ∧ a ≤ A) (hb : 0 ≤ b ∧ b ≤ B) (hA : 0 ≤ A) : -(A * B) ≤ a * b ∧ a * b ≤ A * B := by
  have h1 : a * b ≤ A * b := Int.mul_le_mul_of_nonneg_right ha.2 hb.1
  have h2 : (-A) * b ≤ a * b := Int.mul_le_mul_of_nonneg_right ha.1 hb.1
  have h3 : A * b ≤ A * B := Int.mul_le_mul_of_nonneg_left hb.2 hA
  rw [Int.neg_mul] at h2
  omega
theorem fV_eq {f It : Nat → Int32} {kk st t : Nat} (hs1 : 1 ≤ st) (hs2 : st ≤ 1000) (hq : t / st < 200) (hq2 : ¬ t % st = 0 → t / st + 1 < 200) (hf : ∀ j, j < 200 → f j = It (200 * kk + j)) (hB : ∀ j, -30000 ≤ (It j).toInt ∧ (It j).toInt ≤ 30000) :
    (fVal f st t).toInt = (fHd It kk st t).toInt ∧ -30000 ≤ (fVal f st t).toInt ∧ (fVal f st t).toInt ≤ 30000 := by
  unfold fVal fHd
  by_cases c : t % st = 0
  · rw [if_pos c, if_pos c, hf _ hq, Int32.toInt_toInt64]
    exact ⟨rfl, hB _⟩
  · rw [if_neg c, if_neg c, hf _ hq, hf _ (hq2 c), show 200 * kk + (t / st + 1) = 200 * kk + t / st + 1 by omega]
    have hr : t % st < st := Nat.mod_lt _ (by omega)
    generalize t % st = r at c hr ⊢
    have b1 := hB (200 * kk + t / st)
    have b2 := hB (200 * kk + t / st + 1)
    generalize It (200 * kk + t / st) = x at b1 ⊢
    generalize It (200 * kk + t / st + 1) = y at b2 ⊢
    have er : (nI r).toInt = (r : Int) := nI_toInt (by omega)
    have es : (nI st).toInt = (st : Int) := nI_toInt (by omega)
    have lr : (lN r).toInt = (r : Int) := lN_toInt (by omega)
    have ls : (lN st).toInt = (st : Int) := lN_toInt (by omega)
    have lsr : (lN (st - r)).toInt = (st : Int) - r := by rw [lN_toInt (by omega)]; omega
    have d1 : (y - x).toInt = y.toInt - x.toInt := sub32 (by omega)
    have m0 := mbd (a := y.toInt - x.toInt) (b := r) (A := 60000) (B := 1000) (by omega) (by omega) (by omega)
    have d2 : ((y - x) * nI r).toInt = (y.toInt - x.toInt) * r := by rw [mul32 (by rw [d1, er]; omega), d1, er]
    have d3 : (fFD ((y - x) * nI r) (nI st)).toInt = (y.toInt - x.toInt) * r / st := by rw [fFD_int (by omega) (by rw [d2]; omega), d2, es]
    have m1 := mbd (a := x.toInt) (b := (st : Int) - r) (A := 30000) (B := 1000) (by omega) (by omega) (by omega)
    have m2 := mbd (a := y.toInt) (b := r) (A := 30000) (B := 1000) (by omega) (by omega) (by omega)
    have e1 : (x.toInt64 * lN (st - r)).toInt = x.toInt * ((st : Int) - r) := by rw [mul64 (by rw [Int32.toInt_toInt64, lsr]; omega), Int32.toInt_toInt64, lsr]
    have e2 : (y.toInt64 * lN r).toInt = y.toInt * r := by rw [mul64 (by rw [Int32.toInt_toInt64, lr]; omega), Int32.toInt_toInt64, lr]
    have e3 : (x.toInt64 * lN (st - r) + y.toInt64 * lN r).toInt = x.toInt * ((st : Int) - r) + y.toInt * r := by rw [add64 (by rw [e1, e2]; omega), e1, e2]
    have e4 : (fDn (x.toInt64 * lN (st - r) + y.toInt64 * lN r) (lN st)).toInt = (x.toInt * ((st : Int) - r) + y.toInt * r) / st := by rw [fDn_int (by omega) (by rw [e3]; omega), e3, ls]
    have e5 : x.toInt * ((st : Int) - r) + y.toInt * r = (y.toInt - x.toInt) * r + x.toInt * st := by rw [Int.mul_sub, Int.sub_mul]; omega
    have e6 : (x.toInt * ((st : Int) - r) + y.toInt * r) / st = (y.toInt - x.toInt) * r / st + x.toInt := by rw [e5, Int.add_mul_ediv_right _ _ (by omega)]
    have g1 : x.toInt * ((st : Int) - r) ≤ 30000 * ((st : Int) - r) := Int.mul_le_mul_of_nonneg_right (by omega) (by omega)
    have g2 : y.toInt * (r : Int) ≤ 30000 * (r : Int) := Int.mul_le_mul_of_nonneg_right (by omega) (by omega)
    have g3 : (-30000) * ((st : Int) - r) ≤ x.toInt * ((st : Int) - r) := Int.mul_le_mul_of_nonneg_right (by omega) (by omega)
    have g4 : (-30000) * (r : Int) ≤ y.toInt * (r : Int) := Int.mul_le_mul_of_nonneg_right (by omega) (by omega)
    have u1 : (x.toInt * ((st : Int) - r) + y.toInt * r) / st ≤ 30000 := Int.ediv_le_of_le_mul (by omega) (by omega)
    have u2 : -30000 ≤ (x.toInt * ((st : Int) - r) + y.toInt * r) / st := Int.le_ediv_of_mul_le (by omega) (by omega)
    have v1 : (x + fFD ((y - x) * nI r) (nI st)).toInt = x.toInt + (y.toInt - x.toInt) * r / st := by rw [add32 (by rw [d3]; omega), d3]
    rw [v1, e4]
    omega
theorem sm_eq {f It : Nat → Int32} {kk st N a j : Nat} {M M' : Nat → Nat} (hs1 : 1 ≤ st) (hs2 : st ≤ 1000) (hN1 : 1 ≤ N) (hN2 : N ≤ 200) (hf : ∀ j, j < 200 → f j = It (200 * kk + j)) (hB : ∀ j, -30000 ≤ (It j).toInt ∧ (It j).toInt ≤ 30000) :
    ∀ n, n ≤ 40 → (∀ b, b < n → tmF M (a + b) j = tmF M' (a + b) j ∧ tmF M' (a + b) j ≤ (N - 1) * st) → (sumV f st M a j n).toInt = (smM It kk st M' a j n).toInt ∧ -(30000 * (n : Int)) ≤ (sumV f st M a j n).toInt ∧ (sumV f st M a j n).toInt ≤ 30000 * n
  | 0, _, _ => ⟨rfl, by simp [sumV], by simp [sumV]⟩
  | n + 1, hn, h => by
    obtain ⟨i1, i2, i3⟩ := sm_eq hs1 hs2 hN1 hN2 hf hB n (by omega) (fun b hb => h b (by omega))
    obtain ⟨e1, e2⟩ := h n (by omega)
    obtain ⟨q1, q2⟩ := hd_ix hN1 hN2 hs1 e2
    obtain ⟨v1, v2, v3⟩ := fV_eq (f := f) (It := It) (kk := kk) hs1 hs2 q1 q2 hf hB
    simp only [sumV, smM]
    rw [e1, add32 (by omega), add64 (by omega), ← v1, i1]
    refine ⟨rfl, ?_, ?_⟩ <;> omega
theorem mean_eq {f It : Nat → Int32} {kk st N a c j : Nat} {M M' : Nat → Nat} (hs1 : 1 ≤ st) (hs2 : st ≤ 1000) (hN1 : 1 ≤ N) (hN2 : N ≤ 200) (hc1 : 1 ≤ c) (hc : c ≤ 40) (hf : ∀ j, j < 200 → f j = It (200 * kk + j)) (hB : ∀ j, -30000 ≤ (It j).toInt ∧ (It j).toInt ≤ 30000)
    (h : ∀ b, b < c → tmF M (a + b) j = tmF M' (a + b) j ∧ tmF M' (a + b) j ≤ (N - 1) * st) : meanF f st M a c j = meanM It kk st M' a c j := by
  obtain ⟨i1, i2, i3⟩ := sm_eq hs1 hs2 hN1 hN2 hf hB c hc h
  unfold meanF meanM
  rw [← Int32.toInt_inj, Int64.toInt_toInt32, fDn_int (by rw [lN_toInt (by omega)]; omega) (by rw [← i1]; omega), fFD_int (by rw [nI_toInt (by omega)]; omega) (by omega), nI_toInt (by omega), lN_toInt (by omega), ← i1]
  have u1 : (sumV f st M a j c).toInt / c ≤ 30000 := Int.ediv_le_of_le_mul (by omega) (by omega)
  have u2 : -30000 ≤ (sumV f st M a j c).toInt / c := Int.le_ediv_of_mul_le (by omega) (by omega)
  exact (bmod_id (by omega) (by omega)).symm
theorem pair_app (cov : Nat → Nat) : ∀ a b p, pairC cov (a + b) p = pairC cov a p ++ pairC cov b (p + a)
  | 0, b, p => by rw [Nat.zero_add]; rfl
  | a + 1, b, p => by
    rw [show a + 1 + b = (a + b) + 1 by omega]
    simp only [pairC, List.cons_append]
    rw [pair_app cov a b (p + 1), show p + 1 + a = p + (a + 1) by omega]
theorem cds_pair (cov : Nat → Nat) : ∀ n, (cds cov n).map (fun i => (i, cov i)) = (pairC cov n 0).filter (fun q => decide (q.2 ≠ 0))
  | 0 => rfl
  | n + 1 => by
    rw [pair_app cov n 1 0, List.filter_append, ← cds_pair cov n]
    simp only [cds, pairC, Nat.zero_add]
    by_cases h : cov n = 0
    · rw [if_pos h]; simp [h]
    · rw [if_neg h]; simp [h]
theorem zip_map {f : Nat → Nat} : ∀ l : List Nat, l.zip (l.map f) = l.map (fun i => (i, f i))
  | [] => rfl
  | a :: l => by simp [zip_map l]
theorem fil_snd (l : List (Nat × Nat)) : (l.filter (fun q => decide (q.2 ≠ 0))).map (·.2) = (l.map (·.2)).filter (fun e => decide (e ≠ 0)) := by
  rw [List.filter_map]; rfl
theorem esC_Hf (cov : Nat → Nat) : Hf (esC cov) = Hf ((pairC cov 39 0).map (·.2)) := by
  funext m
  rw [← Hf_drop ((pairC cov 39 0).map (·.2)), ← fil_snd, ← cds_pair, List.map_map]
  rfl
theorem hpR_39 {cov : Nat → Nat} (h : ∀ i, cov i < 4096) : hpR cov = hpM cov 39 := by
  unfold hpR hpM
  rw [esC_Hf, show (cds cov 39).zip (esC cov) = (pairC cov 39 0).filter (fun q => decide (q.2 ≠ 0)) from by rw [← cds_pair]; exact zip_map _, ch_drop]
  have h12 := hp_12 (cov := cov) (N := 39) h
  rw [← pairC_snd] at h12
  exact ch_mdl (pairC cov 39 0) [] (orC cov 39) (fun e he => absurd he List.not_mem_nil) (by show Hf ([] ++ _) _ ≠ 1000; rw [List.nil_append]; omega)
theorem mdl_z : ∀ (z : List (Nat × Nat)) (m : Nat), (∀ q ∈ z, q.2 = 0) → mdlF z m = []
  | [], _, _ => rfl
  | q :: z, m, h => by
    simp only [mdlF]
    rw [if_neg (fun h9 => h9.1 (h q List.mem_cons_self))]
    exact mdl_z z m (fun q hq => h q (List.mem_cons_of_mem _ hq))
theorem Hf_z0 (l z : List (Nat × Nat)) (m : Nat) (h : ∀ q ∈ z, q.2 = 0) : Hf ((l ++ z).map (·.2)) m = Hf (l.map (·.2)) m := by
  rw [← Hf_drop, ← Hf_drop (l.map (·.2)), List.map_append, List.filter_append]
  rw [show (z.map (·.2)).filter (fun e => decide (e ≠ 0)) = [] from List.filter_eq_nil_iff.mpr (fun e he => by
    obtain ⟨q, hq, rfl⟩ := List.mem_map.mp he
    simp [h q hq]), List.append_nil]
theorem mdl_app : ∀ (l z : List (Nat × Nat)) (m : Nat), (∀ q ∈ z, q.2 = 0) → mdlF (l ++ z) m = mdlF l m
  | [], z, m, h => mdl_z z m h
  | q :: l, z, m, h => by
    simp only [mdlF, List.cons_append]
    have e1 : ∀ m, Hf ((l ++ z).map (·.2)) m = Hf (l.map (·.2)) m := fun m => Hf_z0 l z m h
    have e2 : Hf (q.2 :: (l ++ z).map (·.2)) m = Hf (q.2 :: l.map (·.2)) m := by
      simp only [Hf]; rw [e1, e1]
    rw [e1, e2, mdl_app l z _ h, mdl_app l z _ h]
theorem orC_z (cov : Nat → Nat) (N : Nat) (h : ∀ i, N ≤ i → cov i = 0) : ∀ d, orC cov (N + d) = orC cov N
  | 0 => rfl
  | d + 1 => by
    show orC cov (N + d) ||| cov (N + d) = _
    rw [h _ (by omega), Nat.or_zero, orC_z cov N h d]
theorem orC_congr {f g : Nat → Nat} : ∀ N, (∀ i, i < N → f i = g i) → orC f N = orC g N
  | 0, _ => rfl
  | N + 1, h => by
    show orC f N ||| f N = orC g N ||| g N
    rw [orC_congr N (fun i hi => h i (by omega)), h N (by omega)]
theorem pairC_mem {cov : Nat → Nat} : ∀ (j p : Nat) (q : Nat × Nat), q ∈ pairC cov j p → p ≤ q.1 ∧ q.2 = cov q.1
  | 0, _, _, h => absurd h List.not_mem_nil
  | j + 1, p, q, h => by
    rcases List.mem_cons.mp h with h | h
    · rw [h]; exact ⟨Nat.le_refl _, rfl⟩
    · have := pairC_mem j (p + 1) q h; exact ⟨by omega, this.2⟩
theorem orC_39 {cov cm : Nat → Nat} {N : Nat} (hN : N ≤ 39) (h1 : ∀ i, i < N → cov i = cm i) (h2 : ∀ i, N ≤ i → cov i = 0) : orC cov 39 = orC cm N := by
  rw [← orC_congr N h1, ← orC_z cov N h2 (39 - N), show N + (39 - N) = 39 by omega]
theorem hp_eq {cov cm : Nat → Nat} {N : Nat} (hN : N ≤ 39) (h0 : ∀ i, cov i < 4096) (h1 : ∀ i, i < N → cov i = cm i) (h2 : ∀ i, N ≤ i → cov i = 0) : hpR cov = hpM cm N := by
  rw [hpR_39 h0]
  unfold hpM
  rw [orC_39 hN h1 h2, ← pairC_congr N 0 (fun i _ hi => h1 i (by omega))]
  rw [show pairC cov 39 0 = pairC cov N 0 ++ pairC cov (39 - N) (0 + N) from by rw [← pair_app, show N + (39 - N) = 39 by omega]]
  exact mdl_app _ _ _ (fun q hq => by
    obtain ⟨a, b⟩ := pairC_mem _ _ q hq
    rw [b]; exact h2 _ (by omega))
theorem hpR_12 {cov : Nat → Nat} (h : ∀ i, cov i < 4096) : (hpR cov).length ≤ 12 := by
  rw [hpR_39 h, hpM_len h]; exact hp_12 h
theorem lA_c {f g : Nat → Nat} {i : Nat} (h : f i = g i) : lA f i = lA g i := by show lN (f i) = lN (g i); rw [h]
theorem expN_congr {To Bo : Nat → Int32} {th n : Nat} {fa fb ga gb : Nat → Nat} : ∀ pn, (∀ i, i < pn → fa i = ga i ∧ fb i = gb i) → expN To Bo th n (lA fa) (lA fb) pn = expN To Bo th n (lA ga) (lA gb) pn
  | 0, _ => rfl
  | i + 1, h => by
    simp only [expN]
    rw [lA_c (h i (by omega)).1, lA_c (h i (by omega)).2, expN_congr (To := To) (Bo := Bo) (th := th) (n := n) i (fun j hj => h j (by omega))]
theorem allS_congr {To Bo : Nat → Int32} {th n : Nat} {fa fb ga gb : Nat → Nat} : ∀ pn, (∀ i, i < pn → fa i = ga i ∧ fb i = gb i) → allS To Bo th n (lA fa) (lA fb) pn = allS To Bo th n (lA ga) (lA gb) pn
  | 0, _ => rfl
  | i + 1, h => by
    simp only [allS]
    rw [lA_c (h i (by omega)).1, lA_c (h i (by omega)).2, allS_congr (To := To) (Bo := Bo) (th := th) (n := n) i (fun j hj => h j (by omega))]
theorem tm_mono {M : Nat → Nat} {a j j' : Nat} (h : j ≤ j') : tmF M a j ≤ tmF M a j' := by
  unfold tmF
  have := Nat.div_le_div_right (c := 32) (Nat.mul_le_mul_left (M (a + 1) - M a) h)
  omega
theorem tm_next {M : Nat → Nat} {a j : Nat} (h1 : M a < M (a + 1)) (hj : j ≤ 32) : tmF M a j ≤ M (a + 1) := by
  unfold tmF
  have h3 : (M (a + 1) - M a) * j ≤ (M (a + 1) - M a) * 32 := Nat.mul_le_mul_left _ hj
  have h5 := Nat.div_le_div_right (c := 32) h3
  rw [Nat.mul_div_cancel _ (by omega)] at h5
  omega
theorem M_mono {M : Nat → Nat} {n : Nat} (hic : ∀ j, j + 1 < n → M j < M (j + 1)) : ∀ d a, a + d < n → M a ≤ M (a + d)
  | 0, a, _ => Nat.le_refl _
  | d + 1, a, h => Nat.le_trans (M_mono hic d a (by omega)) (Nat.le_of_lt (hic (a + d) (by omega)))
theorem cut_all {M : Nat → Nat} {n tt cc X : Nat} (hic : ∀ j, j + 1 < n → M j < M (j + 1)) (hc : 1 ≤ cc) (hl : tt + cc + 1 ≤ n) (h : tmF M (tt + cc - 1) 31 ≤ X) : ∀ b j, tt ≤ b → b < tt + cc → j < 32 → tmF M b j ≤ X := fun b j h1 h2 h3 => by
  refine Nat.le_trans ?_ h
  rcases Nat.eq_or_lt_of_le (show b ≤ tt + cc - 1 by omega) with e | e
  · rw [e]; exact tm_mono (by omega)
  · have a1 := tm_next (M := M) (a := b) (j := j) (hic b (by omega)) (by omega)
    have a2 := M_mono hic (tt + cc - 1 - (b + 1)) (b + 1) (by omega)
    rw [show b + 1 + (tt + cc - 1 - (b + 1)) = tt + cc - 1 by omega] at a2
    have a3 : M (tt + cc - 1) ≤ tmF M (tt + cc - 1) 31 := by unfold tmF; omega
    omega
theorem tm_RL {M M' : Nat → Nat} {b j : Nat} (h1 : M b = M' b) (h2 : M (b + 1) = M' (b + 1)) : tmF M b j = tmF M' b j := by unfold tmF; rw [h1, h2]
theorem cut_iff {M : Nat → Nat} {L : List Nat} {tt cc n st : Nat} (hR : RLs M L) (hic : ∀ j, j + 1 < L.length → M j < M (j + 1)) (hc : 1 ≤ cc) :
    (tt + cc + 1 ≤ L.length ∧ 1 ≤ n ∧ tmF M (tt + cc - 1) 31 ≤ (n - 1) * st) ↔ (tt + cc + 1 ≤ L.length ∧ ∀ b j, tt ≤ b → b < tt + cc → j < 32 → 1 ≤ n ∧ tmF (fun i => L.getD i 0) b j ≤ (n - 1) * st) := by
  have e : ∀ b j, b + 1 < L.length → tmF (fun i => L.getD i 0) b j = tmF M b j := fun b j hb => tm_RL (hR b (by omega)).symm (hR (b + 1) hb).symm
  constructor
  · rintro ⟨a, b, c⟩
    refine ⟨a, fun x j h1 h2 h3 => ⟨b, ?_⟩⟩
    rw [e _ _ (by omega)]
    exact cut_all hic hc a c x j h1 h2 h3
  · rintro ⟨a, b⟩
    have := b (tt + cc - 1) 31 (by omega) (by omega) (by omega)
    rw [e _ _ (by omega)] at this
    exact ⟨a, this⟩
theorem bz_eq (W : Nat → Int32) : bzN (W 0) (W 1) (W 2) (W 3) = bzM W 4 := by simp only [bzN, bzM]; omega
/-! parts: what the pool holds -/
def PtOk (kd se pn : Nat) (TA TB : Nat → Nat) (r : PRt) : Prop := r.2.2.2.1 = nI kd ∧ r.2.2.2.2.1 = nI se ∧ r.2.2.2.2.2.1 = pn ∧ ∀ i, i < pn → r.2.2.2.2.2.2.1 i = TA i ∧ r.2.2.2.2.2.2.2 i = TB i
def t0D (d B S G : Nat) : Nat := if d = 0 then B * (G - S) else if d = 1 then B * (G + S) else if d = 2 then G - S else G * G - S * S
def byD (d S G : Nat) : Nat := if d = 3 then 2 * S * G else 2 * G
def tmD (d B S G j : Nat) : Nat := if j = 1 then 2 * t0D d B S G else if j = 2 then t0D d B S G - byD d S G else t0D d B S G
def tnD (d : Nat) : Nat := if d = 1 then 3 else if d = 2 then 1 else 2
def PsOk (fo fg fr : Nat → Option Nat) (sh rg : Nat) (U V Te Si Ba Sm Gr : Nat → Nat) (ps : List PRt) : Prop :=
  (∀ i, i < sh → ∃ r ∈ ps, fo i = some r.1 ∧ PtOk 0 i 3 (fun j => tA (U i * (j + 1)) (V i * 1)) (fun j => tB (U i * (j + 1)) (V i * 1)) r) ∧
  (∀ i, i + 1 < sh → ∃ r ∈ ps, fg i = some r.1 ∧ PtOk 1 (i + 1) 2 (fun j => tA (U (i + 1) * ((j + 1) * Te (i + 1))) (V (i + 1) * 1)) (fun j => tB (U (i + 1) * ((j + 1) * Te (i + 1))) (V (i + 1) * 1)) r) ∧
  ∀ q, q < rg → ∀ d, d < 4 → ∃ r ∈ ps, fr (4 * q + d) = some r.1 ∧ PtOk (2 + d) (Si q) (tnD d) (fun j => tA (U (Si q) * tmD d (Ba q) (Sm q) (Gr q) j) (V (Si q) * byD d (Sm q) (Gr q))) (fun j => tB (U (Si q) * tmD d (Ba q) (Sm q) (Gr q) j) (V (Si q) * byD d (Sm q) (Gr q))) r
theorem fFind_at {fo fg fr : Nat → Option Nat} {sh rg k : Nat} (h4 : sh ≤ 4) (h8 : rg ≤ 8) (hk : k < 2 * sh - 1 + 4 * rg) : fFind fo fg fr sh rg (nI k) = if k < sh then fo k else if k - sh < sh - 1 then fg (k - sh) else fr (k - sh - (sh - 1)) := by
  unfold fFind
  rw [if_neg (fun h => by
    rcases h with h | h
    · rw [Int32.lt_iff_toInt_lt, nI_toInt (by omega), show (0 : Int32).toInt = 0 from rfl] at h; omega
    · rw [Int32.le_iff_toInt_le, nI_toInt (by omega), nI_toInt (by omega)] at h; omega), nI_clamp (by omega)]
theorem fFind_none {fo fg fr : Nat → Option Nat} {sh rg : Nat} {nu : Int32} (h1 : 1 ≤ sh) (h4 : sh ≤ 4) (h8 : rg ≤ 8) (h : ¬ (0 ≤ nu ∧ nu ≤ nI (2 * sh - 1 + 4 * rg - 1))) : fFind fo fg fr sh rg nu = none := by
  unfold fFind
  rw [if_pos]
  rw [Int32.le_iff_toInt_le, Int32.le_iff_toInt_le, nI_toInt (by omega), show (0 : Int32).toInt = 0 from rfl] at h
  rw [Int32.lt_iff_toInt_lt, Int32.le_iff_toInt_le, nI_toInt (by omega), show (0 : Int32).toInt = 0 from rfl]
  omega
theorem PsOk_at {fo fg fr : Nat → Option Nat} {sh rg : Nat} {U V Te Si Ba Sm Gr : Nat → Nat} {ps : List PRt} {k : Nat} (h1 : 1 ≤ sh) (h4 : sh ≤ 4) (h8 : rg ≤ 8) (h : PsOk fo fg fr sh rg U V Te Si Ba Sm Gr ps) (hk : k < 2 * sh - 1 + 4 * rg) :
    ∃ r ∈ ps, fFind fo fg fr sh rg (nI k) = some r.1 ∧ PtOk (kdN sh k) (seN sh Si k) (tnN sh k) (toA sh U V Te Si Ba Sm Gr k) (toB sh U V Te Si Ba Sm Gr k) r := by
  rw [fFind_at h4 h8 hk]
  by_cases c1 : k < sh
  · obtain ⟨r, hr, e, a1, a2, a3, a4⟩ := h.1 k c1
    have k0 : kdN sh k = 0 := by unfold kdN; rw [if_pos c1]
    have s0 : seN sh Si k = k := by unfold seN; rw [if_pos c1]
    have t0 : tnN sh k = 3 := by unfold tnN; rw [if_pos (Or.inl k0)]
    refine ⟨r, hr, by rw [if_pos c1]; exact e, by rw [k0]; exact a1, by rw [s0]; exact a2, by rw [t0]; exact a3, fun i hi => ?_⟩
    rw [t0] at hi
    obtain ⟨b1, b2⟩ := a4 i hi
    rw [b1, b2]
    unfold toA toB tmM byM
    rw [s0, if_pos k0, if_pos (by omega)]
    exact ⟨rfl, rfl⟩
  · by_cases c2 : k - sh < sh - 1
    · obtain ⟨r, hr, e, a1, a2, a3, a4⟩ := h.2.1 (k - sh) (by omega)
      have k0 : kdN sh k = 1 := by unfold kdN; rw [if_neg c1, if_pos (by omega)]
      have s0 : seN sh Si k = k - sh + 1 := by unfold seN; rw [if_neg c1, if_pos (by omega)]
      have t0 : tnN sh k = 2 := by unfold tnN; rw [if_neg (by omega), if_neg (by omega)]
      refine ⟨r, hr, by rw [if_neg c1, if_pos c2]; exact e, by rw [k0]; exact a1, by rw [s0]; exact a2, by rw [t0]; exact a3, fun i hi => ?_⟩
      rw [t0] at hi
      obtain ⟨b1, b2⟩ := a4 i hi
      rw [b1, b2]
      unfold toA toB tmM byM
      rw [s0, if_neg (by omega), if_pos k0, if_pos (by omega)]
      exact ⟨rfl, rfl⟩
    · obtain ⟨r, hr, e, a1, a2, a3, a4⟩ := h.2.2 ((k + 1 - 2 * sh) / 4) (by omega) ((k + 1 - 2 * sh) % 4) (by omega)
      have k0 : kdN sh k = 2 + (k + 1 - 2 * sh) % 4 := by unfold kdN; rw [if_neg c1, if_neg (by omega)]
      have g0 : rgN sh k = (k + 1 - 2 * sh) / 4 := rfl
      have s0 : seN sh Si k = Si ((k + 1 - 2 * sh) / 4) := by unfold seN; rw [if_neg c1, if_neg (by omega), g0]
      generalize hd : (k + 1 - 2 * sh) % 4 = d at a1 a3 a4 e k0
      generalize hq : (k + 1 - 2 * sh) / 4 = q at a1 a2 a3 a4 e s0 g0
      have t0 : tnN sh k = tnD d := by
        unfold tnN tnD; rw [k0]
        by_cases x1 : d = 1
        · rw [if_pos (by omega), if_pos x1]
        · rw [if_neg (by omega), if_neg x1]
          by_cases x2 : d = 2
          · rw [if_pos (by omega), if_pos x2]
          · rw [if_neg (by omega), if_neg x2]
      have y0 : byM sh Sm Gr k = byD d (Sm q) (Gr q) := by
        unfold byM byD; rw [k0, g0, if_neg (by omega)]
        by_cases x1 : d = 3
        · rw [if_pos (by omega), if_pos x1]
        · rw [if_neg (by omega), if_neg x1]
      have w0 : t0M sh Ba Sm Gr k = t0D d (Ba q) (Sm q) (Gr q) := by
        unfold t0M t0D; rw [k0, g0]
        by_cases x1 : d = 0
        · rw [if_pos (by omega), if_pos x1]
        · rw [if_neg (by omega), if_neg x1]
          by_cases x2 : d = 1
          · rw [if_pos (by omega), if_pos x2]
          · rw [if_neg (by omega), if_neg x2]
            by_cases x3 : d = 2
            · rw [if_pos (by omega), if_pos x3]
            · rw [if_neg (by omega), if_neg x3]
      have z0 : ∀ i, tmM sh Te Si Ba Sm Gr k i = tmD d (Ba q) (Sm q) (Gr q) i := fun i => by
        unfold tmM tmD; rw [k0, if_neg (by omega), if_neg (by omega), w0, y0]
      refine ⟨r, hr, by rw [if_neg c1, if_neg c2, ← e, ← hd, ← hq]; congr 1; omega, by rw [k0]; exact a1, by rw [s0]; exact a2, by rw [t0]; exact a3, fun i hi => ?_⟩
      rw [t0] at hi
      obtain ⟨b1, b2⟩ := a4 i hi
      rw [b1, b2]
      unfold toA toB
      rw [s0, z0, y0]
      exact ⟨rfl, rfl⟩
def PO (ra qa qb i : Nat) (X Y : Nat → Nat) : PRt := (ra, qa, qb, 0, nI i, 3, t3 (tA (X i * 1) (Y i * 1)) (tA (X i * 2) (Y i * 1)) (tA (X i * 3) (Y i * 1)), t3 (tB (X i * 1) (Y i * 1)) (tB (X i * 2) (Y i * 1)) (tB (X i * 3) (Y i * 1)))
def PG (ra qa qb i te : Nat) (X Y : Nat → Nat) : PRt := (ra, qa, qb, 1, nI i, 2, t2 (tA (X i * te) (Y i * 1)) (tA (X i * (2 * te)) (Y i * 1)), t2 (tB (X i * te) (Y i * 1)) (tB (X i * (2 * te)) (Y i * 1)))
def PQ0 (ra qa qb y bl pp qq : Nat) (U V : Nat → Nat) : PRt := (ra, qa, qb, 2, nI y, 2, t2 (tA (U y * (bl * (qq - pp))) (V y * (2 * qq))) (tA (U y * (2 * bl * (qq - pp))) (V y * (2 * qq))), t2 (tB (U y * (bl * (qq - pp))) (V y * (2 * qq))) (tB (U y * (2 * bl * (qq - pp))) (V y * (2 * qq))))
def PQ1 (ra qa qb y bl pp qq : Nat) (U V : Nat → Nat) : PRt := (ra, qa, qb, 3, nI y, 3, t3 (tA (U y * (bl * (qq + pp))) (V y * (2 * qq))) (tA (U y * (2 * bl * (qq + pp))) (V y * (2 * qq))) (tA (U y * (bl * (qq + pp) - 2 * qq)) (V y * (2 * qq))), t3 (tB (U y * (bl * (qq + pp))) (V y * (2 * qq))) (tB (U y * (2 * bl * (qq + pp))) (V y * (2 * qq))) (tB (U y * (bl * (qq + pp) - 2 * qq)) (V y * (2 * qq))))
def PQ2 (ra qa qb y pp qq : Nat) (U V : Nat → Nat) : PRt := (ra, qa, qb, 4, nI y, 1, t1 (tA (U y * (qq - pp)) (V y * (2 * qq))), t1 (tB (U y * (qq - pp)) (V y * (2 * qq))))
def PQ3 (ra qa qb y pp qq : Nat) (U V : Nat → Nat) : PRt := (ra, qa, qb, 5, nI y, 2, t2 (tA (U y * (qq * qq - pp * pp)) (V y * (2 * pp * qq))) (tA (U y * (2 * (qq * qq - pp * pp))) (V y * (2 * pp * qq))), t2 (tB (U y * (qq * qq - pp * pp)) (V y * (2 * pp * qq))) (tB (U y * (2 * (qq * qq - pp * pp))) (V y * (2 * pp * qq))))
theorem PO_ok (ra qa qb i : Nat) (X Y : Nat → Nat) : PtOk 0 i 3 (fun j => tA (X i * (j + 1)) (Y i * 1)) (fun j => tB (X i * (j + 1)) (Y i * 1)) (PO ra qa qb i X Y) := by
  refine ⟨by show (0 : Int32) = nI 0; decide, rfl, rfl, fun j hj => ?_⟩
  rcases (show j = 0 ∨ j = 1 ∨ j = 2 by omega) with rfl | rfl | rfl <;> exact ⟨rfl, rfl⟩
theorem PG_ok (ra qa qb i te : Nat) (X Y : Nat → Nat) : PtOk 1 i 2 (fun j => tA (X i * ((j + 1) * te)) (Y i * 1)) (fun j => tB (X i * ((j + 1) * te)) (Y i * 1)) (PG ra qa qb i te X Y) := by
  refine ⟨by show (1 : Int32) = nI 1; decide, rfl, rfl, fun j hj => ?_⟩
  rcases (show j = 0 ∨ j = 1 by omega) with rfl | rfl
  · show tA (X i * te) (Y i * 1) = tA (X i * ((0 + 1) * te)) (Y i * 1) ∧ tB (X i * te) (Y i * 1) = tB (X i * ((0 + 1) * te)) (Y i * 1)
    rw [Nat.zero_add, Nat.one_mul]; exact ⟨rfl, rfl⟩
  · exact ⟨rfl, rfl⟩
theorem PQ0_ok (ra qa qb y bl pp qq : Nat) (U V : Nat → Nat) : PtOk 2 y 2 (fun j => tA (U y * tmD 0 bl pp qq j) (V y * byD 0 pp qq)) (fun j => tB (U y * tmD 0 bl pp qq j) (V y * byD 0 pp qq)) (PQ0 ra qa qb y bl pp qq U V) := by
  refine ⟨by show (2 : Int32) = nI 2; decide, rfl, rfl, fun j hj => ?_⟩
  rcases (show j = 0 ∨ j = 1 by omega) with rfl | rfl
  · exact ⟨rfl, rfl⟩
  · show tA (U y * (2 * bl * (qq - pp))) (V y * (2 * qq)) = tA (U y * (2 * (bl * (qq - pp)))) (V y * (2 * qq)) ∧ tB (U y * (2 * bl * (qq - pp))) (V y * (2 * qq)) = tB (U y * (2 * (bl * (qq - pp)))) (V y * (2 * qq))
    rw [Nat.mul_assoc 2]; exact ⟨rfl, rfl⟩
theorem PQ1_ok (ra qa qb y bl pp qq : Nat) (U V : Nat → Nat) : PtOk 3 y 3 (fun j => tA (U y * tmD 1 bl pp qq j) (V y * byD 1 pp qq)) (fun j => tB (U y * tmD 1 bl pp qq j) (V y * byD 1 pp qq)) (PQ1 ra qa qb y bl pp qq U V) := by
  refine ⟨by show (3 : Int32) = nI 3; decide, rfl, rfl, fun j hj => ?_⟩
  rcases (show j = 0 ∨ j = 1 ∨ j = 2 by omega) with rfl | rfl | rfl
  · exact ⟨rfl, rfl⟩
  · show tA (U y * (2 * bl * (qq + pp))) (V y * (2 * qq)) = tA (U y * (2 * (bl * (qq + pp)))) (V y * (2 * qq)) ∧ tB (U y * (2 * bl * (qq + pp))) (V y * (2 * qq)) = tB (U y * (2 * (bl * (qq + pp)))) (V y * (2 * qq))
    rw [Nat.mul_assoc 2]; exact ⟨rfl, rfl⟩
  · exact ⟨rfl, rfl⟩
theorem PQ2_ok (ra qa qb y bl pp qq : Nat) (U V : Nat → Nat) : PtOk 4 y 1 (fun j => tA (U y * tmD 2 bl pp qq j) (V y * byD 2 pp qq)) (fun j => tB (U y * tmD 2 bl pp qq j) (V y * byD 2 pp qq)) (PQ2 ra qa qb y pp qq U V) := by
  refine ⟨by show (4 : Int32) = nI 4; decide, rfl, rfl, fun j hj => ?_⟩
  rcases (show j = 0 by omega) with rfl
  exact ⟨rfl, rfl⟩
theorem PQ3_ok (ra qa qb y bl pp qq : Nat) (U V : Nat → Nat) : PtOk 5 y 2 (fun j => tA (U y * tmD 3 bl pp qq j) (V y * byD 3 pp qq)) (fun j => tB (U y * tmD 3 bl pp qq j) (V y * byD 3 pp qq)) (PQ3 ra qa qb y pp qq U V) := by
  refine ⟨by show (5 : Int32) = nI 5; decide, rfl, rfl, fun j hj => ?_⟩
  rcases (show j = 0 ∨ j = 1 by omega) with rfl | rfl <;> exact ⟨rfl, rfl⟩
theorem PsOk_shaft {fo fg fr : Nat → Option Nat} {sh rg : Nat} {U V Te Si Ba Sm Gr : Nat → Nat} {ps : List PRt} {ra qa qb rb qc qd x y te : Nat} (hs1 : 1 ≤ sh) (hSi : ∀ q, q < rg → Si q < sh) (h : PsOk fo fg fr sh rg U V Te Si Ba Sm Gr ps) :
    PsOk (va_up fo sh (some ra)) (va_up fg (sh - 1) (some rb)) fr (sh + 1) rg (updN U sh x) (updN V sh y) (updN Te sh te) Si Ba Sm Gr (PO ra qa qb sh (updN U sh x) (updN V sh y) :: PG rb qc qd sh te (updN U sh x) (updN V sh y) :: ps) := by
  have un : ∀ (M : Nat → Nat) (z i : Nat), i ≠ sh → updN M sh z i = M i := fun M z i hi => if_neg hi
  refine ⟨fun i hi => ?_, fun i hi => ?_, fun q hq d hd => ?_⟩
  · by_cases e : i = sh
    · subst e
      exact ⟨_, List.mem_cons_self, if_pos rfl, PO_ok _ _ _ _ _ _⟩
    · obtain ⟨r, hr, e1, e2⟩ := h.1 i (by omega)
      refine ⟨r, List.mem_cons_of_mem _ (List.mem_cons_of_mem _ hr), (if_neg e).trans e1, ?_⟩
      rw [un _ _ _ e, un _ _ _ e]; exact e2
  · by_cases e : i + 1 = sh
    · refine ⟨_, List.mem_cons_of_mem _ List.mem_cons_self, if_pos (by omega), ?_⟩
      rw [e, show updN Te sh te sh = te from if_pos rfl]
      exact PG_ok _ _ _ _ _ _ _
    · obtain ⟨r, hr, e1, e2⟩ := h.2.1 i (by omega)
      refine ⟨r, List.mem_cons_of_mem _ (List.mem_cons_of_mem _ hr), (if_neg (by omega)).trans e1, ?_⟩
      rw [un _ _ _ e, un _ _ _ e, un _ _ _ e]; exact e2
  · obtain ⟨r, hr, e1, e2⟩ := h.2.2 q hq d hd
    refine ⟨r, List.mem_cons_of_mem _ (List.mem_cons_of_mem _ hr), e1, ?_⟩
    have := hSi q hq
    rw [un _ _ _ (by omega), un _ _ _ (by omega)]; exact e2
theorem PsOk_ring {fo fg fr : Nat → Option Nat} {sh rg : Nat} {U V Te Si Ba Sm Gr : Nat → Nat} {ps : List PRt} {r1 qa1 qb1 r2 qa2 qb2 r3 qa3 qb3 r4 qa4 qb4 y bl pp qq : Nat} (h : PsOk fo fg fr sh rg U V Te Si Ba Sm Gr ps) :
    PsOk fo fg (va_up (va_up (va_up (va_up fr (rg * 4) (some r1)) (rg * 4 + 1) (some r2)) (rg * 4 + 2) (some r3)) (rg * 4 + 3) (some r4)) sh (rg + 1) U V Te (updN Si rg y) (updN Ba rg bl) (updN Sm rg pp) (updN Gr rg qq) (PQ0 r1 qa1 qb1 y bl pp qq U V :: PQ1 r2 qa2 qb2 y bl pp qq U V :: PQ2 r3 qa3 qb3 y pp qq U V :: PQ3 r4 qa4 qb4 y pp qq U V :: ps) := by
  have m4 : ∀ {r : PRt}, r ∈ ps → r ∈ (PQ0 r1 qa1 qb1 y bl pp qq U V :: PQ1 r2 qa2 qb2 y bl pp qq U V :: PQ2 r3 qa3 qb3 y pp qq U V :: PQ3 r4 qa4 qb4 y pp qq U V :: ps) := fun hr => List.mem_cons_of_mem _ (List.mem_cons_of_mem _ (List.mem_cons_of_mem _ (List.mem_cons_of_mem _ hr)))
  refine ⟨fun i hi => ?_, fun i hi => ?_, fun q hq d hd => ?_⟩
  · obtain ⟨r, hr, e1, e2⟩ := h.1 i hi
    exact ⟨r, m4 hr, e1, e2⟩
  · obtain ⟨r, hr, e1, e2⟩ := h.2.1 i hi
    exact ⟨r, m4 hr, e1, e2⟩
  · by_cases e : q = rg
    · subst e
      have us : ∀ (M : Nat → Nat) (z : Nat), updN M q z q = z := fun M z => if_pos rfl
      rw [us, us, us, us]
      unfold va_up
      rcases (show d = 0 ∨ d = 1 ∨ d = 2 ∨ d = 3 by omega) with rfl | rfl | rfl | rfl
      · exact ⟨_, List.mem_cons_self, by rw [if_neg (by omega), if_neg (by omega), if_neg (by omega), if_pos (by omega)]; rfl, PQ0_ok _ _ _ _ _ _ _ _ _⟩
      · exact ⟨_, List.mem_cons_of_mem _ List.mem_cons_self, by rw [if_neg (by omega), if_neg (by omega), if_pos (by omega)]; rfl, PQ1_ok _ _ _ _ _ _ _ _ _⟩
      · exact ⟨_, List.mem_cons_of_mem _ (List.mem_cons_of_mem _ List.mem_cons_self), by rw [if_neg (by omega), if_pos (by omega)]; rfl, PQ2_ok _ _ _ _ bl _ _ _ _⟩
      · exact ⟨_, List.mem_cons_of_mem _ (List.mem_cons_of_mem _ (List.mem_cons_of_mem _ List.mem_cons_self)), by rw [if_pos (by omega)]; rfl, PQ3_ok _ _ _ _ bl _ _ _ _⟩
    · obtain ⟨r, hr, e1, e2⟩ := h.2.2 q (by omega) d hd
      have un : ∀ (M : Nat → Nat) (z : Nat), updN M rg z q = M q := fun M z => if_neg e
      refine ⟨r, m4 hr, ?_, ?_⟩
      · unfold va_up; rw [if_neg (by omega), if_neg (by omega), if_neg (by omega), if_neg (by omega)]; exact e1
      · rw [un, un, un, un]; exact e2
def covR (sh rg : Nat) (U V Te Si Ba Sm Gr : Nat → Nat) (To Bo : Nat → Int32) (th n : Nat) (i : Nat) : Nat := if i < 2 * sh - 1 + 4 * rg then covM sh U V Te Si Ba Sm Gr To Bo th n i else 0
theorem covR_lt {sh rg : Nat} {U V Te Si Ba Sm Gr : Nat → Nat} {To Bo : Nat → Int32} {th n : Nat} (hn : n ≤ 12) (i : Nat) : covR sh rg U V Te Si Ba Sm Gr To Bo th n i < 4096 := by
  unfold covR; split
  · exact covM_lt hn i
  · omega
theorem PsOk_PA {fo fg fr : Nat → Option Nat} {sh rg : Nat} {U V Te Si Ba Sm Gr : Nat → Nat} {ps : List PRt} {To Bo : Nat → Int32} {th n : Nat} (h1 : 1 ≤ sh) (h4 : sh ≤ 4) (h8 : rg ≤ 8) (hn : n ≤ 12) (h : PsOk fo fg fr sh rg U V Te Si Ba Sm Gr ps) :
    PartsAt fo fg fr sh rg ps To Bo th n (covR sh rg U V Te Si Ba Sm Gr To Bo th n) := by
  refine ⟨fun i hi => ?_, fun i hi => if_neg (by omega), covR_lt hn⟩
  obtain ⟨r, hr, e, a1, a2, a3, a4⟩ := PsOk_at (k := i) h1 h4 h8 h (by omega)
  have t := tnN_in sh i
  refine ⟨r, hr, e, by rw [a3]; exact t.1, by rw [a3]; exact t.2, ?_⟩
  unfold covR covM covP
  rw [if_pos (by omega), a3, allS_congr (tnN sh i) a4, expN_congr (tnN sh i) a4]
theorem ring_iff {yy bl pp qq a b : Int32} : ((0 ≤ yy ∧ yy ≤ a) ∧ (3 ≤ bl ∧ bl ≤ 30) ∧ (2 ≤ qq ∧ qq ≤ 100) ∧ (1 ≤ pp ∧ pp ≤ qq - 1)) ↔ ((0 ≤ yy ∧ yy ≤ a) ∧ (3 ≤ bl ∧ bl ≤ 30) ∧ (1 ≤ pp ∧ pp ≤ qq - 1) ∧ (1 ≤ qq ∧ qq ≤ 100)) := by
  have key : (2 ≤ qq ∧ qq ≤ 100) ∧ (1 ≤ pp ∧ pp ≤ qq - 1) ↔ (1 ≤ pp ∧ pp ≤ qq - 1) ∧ (1 ≤ qq ∧ qq ≤ 100) := by
    simp only [Int32.le_iff_toInt_le, show (1 : Int32).toInt = 1 from rfl, show (2 : Int32).toInt = 2 from rfl, show (100 : Int32).toInt = 100 from rfl]
    constructor
    · rintro ⟨⟨h1, h2⟩, h3, h4⟩; exact ⟨⟨h3, h4⟩, by omega, h2⟩
    · rintro ⟨⟨h1, h2⟩, h3, h4⟩
      have e : (qq - 1).toInt = qq.toInt - 1 := sub32 (by rw [show (1 : Int32).toInt = 1 from rfl]; omega)
      exact ⟨⟨by omega, h4⟩, h1, h2⟩
  rw [key]
