/-! marks, purely: what is mended rises -/
def SPw (L : List Nat) : Prop := L.Pairwise (· < ·)
theorem SPw_push {L : List Nat} {y : Nat} (h : SPw L) (hy : ∀ a ∈ L, a < y) : SPw (L ++ [y]) := by
  unfold SPw at *
  rw [List.pairwise_append]
  exact ⟨h, List.pairwise_singleton _ _, fun a ha b hb => by simp at hb; subst hb; exact hy a ha⟩
theorem kpL_inv {L : List Nat} {y : Nat} (h : SPw L) (hy : ∀ a ∈ L, a < y) : SPw (kpL L y) ∧ ∀ a ∈ kpL L y, a ≤ y := by
  unfold kpL; split
  · refine ⟨SPw_push h hy, fun a ha => ?_⟩
    rcases List.mem_append.mp ha with g | g
    · exact Nat.le_of_lt (hy a g)
    · simp at g; omega
  · exact ⟨h, fun a ha => Nat.le_of_lt (hy a ha)⟩
theorem div_up {way m i : Nat} (hm : 0 < m) (h : m ≤ way) (hi : 1 ≤ i) : way * (i - 1) / m + 1 ≤ way * i / m := by
  have e : way * i = way * (i - 1) + way := by
    rw [← Nat.mul_succ]; congr 1; omega
  rw [e, ← Nat.add_div_right _ hm]
  exact Nat.div_le_div_right (by omega)
theorem div_top {way m i : Nat} (hw : 0 < way) (hm : 0 < m) (hi : i ≤ m) (h1 : 1 ≤ i) : way * (i - 1) / m < way := by
  rw [Nat.div_lt_iff_lt_mul hm]
  exact Nat.mul_lt_mul_of_pos_left (by omega) hw
theorem flL_inv {fr way m : Nat} (hw : 0 < way) (hm : 0 < m) (hmw : m ≤ way) : ∀ (n i : Nat) (L : List Nat), 1 ≤ i → i ≤ m → SPw L → (∀ a ∈ L, a ≤ fr + way * (i - 1) / m) → SPw (flL fr way m n i L) ∧ ∀ a ∈ flL fr way m n i L, a < fr + way
  | 0, i, L, h1, h2, hs, ha => ⟨hs, fun a h => by have := ha a h; have := div_top hw hm h2 h1; omega⟩
  | n + 1, i, L, h1, h2, hs, ha => by
    unfold flL; split
    · rename_i g
      have hk := kpL_inv (y := fr + way * i / m) hs (fun a h => by have := ha a h; have := div_up hm hmw h1; omega)
      exact flL_inv hw hm hmw n (i + 1) _ (by omega) (by omega) hk.1 (fun a h => by rw [Nat.add_sub_cancel]; exact hk.2 a h)
    · exact ⟨hs, fun a h => by have := ha a h; have := div_top hw hm h2 h1; omega⟩
theorem flL_ge (fr way m : Nat) : ∀ (n i : Nat) (L : List Nat), L.length ≤ (flL fr way m n i L).length
  | 0, _, _ => Nat.le_refl _
  | n + 1, i, L => by
    unfold flL; split
    · refine Nat.le_trans ?_ (flL_ge fr way m n (i + 1) _)
      unfold kpL; split
      · rw [List.length_append]; omega
      · exact Nat.le_refl _
    · exact Nat.le_refl _
theorem getD_mem {L : List Nat} {i : Nat} (h : i < L.length) : L.getD i 0 ∈ L := by
  rw [List.getD, List.getElem?_eq_getElem h]; exact List.getElem_mem h
theorem SPw_lt {L : List Nat} (h : SPw L) {i j : Nat} (hij : i < j) (hj : j < L.length) : L.getD i 0 < L.getD j 0 := by
  have h1 := (List.pairwise_iff_getElem.mp h) i j (by omega) hj hij
  rw [List.getD, List.getD, List.getElem?_eq_getElem hj, List.getElem?_eq_getElem (by omega : i < L.length)]; exact h1
theorem mq_way {w way : Nat} (hw : 1 ≤ w) (h : 3 * w < 2 * way) : (2 * way + w) / (2 * w) ≤ way ∧ 2 ≤ (2 * way + w) / (2 * w) := by
  constructor
  · refine Nat.le_of_lt_succ ((Nat.div_lt_iff_lt_mul (by omega)).mpr ?_)
    have h1 : way * 2 * 1 ≤ way * 2 * w := Nat.mul_le_mul_left _ hw
    have e : Nat.succ way * (2 * w) = way * 2 * w + 2 * w := by rw [Nat.succ_mul, Nat.mul_assoc]
    rw [e]; omega
  · exact (Nat.le_div_iff_mul_le (by omega)).mpr (by omega)
theorem mdL_inv {L : List Nat} {x : Nat} (h : SPw L) (hx : ∀ a ∈ L, a < x) (hla : 2 ≤ L.length → L.length < 120 → ∀ a ∈ L, a ≤ frL L) : SPw (mdL L x) ∧ ∀ a ∈ mdL L x, a < x := by
  unfold mdL; split
  · exact ⟨h, hx⟩
  · rename_i g
    split
    · exact ⟨h, hx⟩
    · rename_i g2
      have hl2 : 2 ≤ L.length := by omega
      have h1 : L.getD (L.length - 2) 0 < frL L := SPw_lt h (by omega) (by omega)
      have h2 : frL L < x := hx _ (getD_mem (by omega))
      have hw : 1 ≤ wyL L := by unfold wyL; omega
      have hq := mq_way hw (by omega : 3 * wyL L < 2 * (x - frL L))
      have h3 := flL_inv (fr := frL L) (way := x - frL L) (m := mqL L x) (by omega) (by unfold mqL; omega) hq.1 (mqL L x) 1 L (by omega) (by unfold mqL; omega) h (fun a ha => Nat.le_trans (hla hl2 (by omega) a ha) (Nat.le_add_right _ _))
      exact ⟨h3.1, fun a ha => by have := h3.2 a ha; omega⟩
theorem mdL_ge (L : List Nat) (x : Nat) : L.length ≤ (mdL L x).length := by
  unfold mdL; split
  · exact Nat.le_refl _
  · split
    · exact Nat.le_refl _
    · exact flL_ge _ _ _ _ _ _
def adAll (Ti : Nat → Nat) : Nat → List Nat
  | 0 => []
  | k + 1 => adL (adAll Ti k) (Ti k)
/-- what holds of the mended row behind k marks -/
def AdI (Ti : Nat → Nat) (k : Nat) : Prop := SPw (adAll Ti k) ∧ (adAll Ti k).length ≤ 120 ∧ (0 < k → ∀ a ∈ adAll Ti k, a ≤ Ti (k - 1)) ∧ ((adAll Ti k).length < 120 → 0 < k → 0 < (adAll Ti k).length ∧ frL (adAll Ti k) = Ti (k - 1)) ∧ (k ≤ 2 → (adAll Ti k).length = k) ∧ (2 ≤ k → 2 ≤ (adAll Ti k).length)
theorem ad_small {L : List Nat} {x : Nat} (h : L.length < 2) : adL L x = L ++ [x] := by
  unfold adL mdL; rw [if_pos (Or.inl h)]; unfold kpL; rw [if_pos (by omega)]
theorem adAll_inv {Ti : Nat → Nat} : ∀ k, (∀ j, j + 1 < k → Ti j < Ti (j + 1)) → AdI Ti k
  | 0, _ => ⟨List.Pairwise.nil, by simp [adAll], fun h => absurd h (Nat.lt_irrefl 0), fun _ h => absurd h (Nat.lt_irrefl 0), fun _ => rfl, fun h => by omega⟩
  | k + 1, h => by
    obtain ⟨i1, i2, i3, i4, i5, i6⟩ := adAll_inv k (fun j hj => h j (by omega))
    have hx : ∀ a ∈ adAll Ti k, a < Ti k := by
      intro a ha
      rcases Nat.eq_zero_or_pos k with e | e
      · subst e; simp [adAll] at ha
      · have h1 := i3 e a ha
        have h2 := h (k - 1) (by omega)
        rw [show k - 1 + 1 = k by omega] at h2; omega
    have hm := mdL_inv (x := Ti k) i1 hx (fun g1 g2 a ha => by
      have hk : 0 < k := by rcases Nat.eq_zero_or_pos k with e | e
                            · subst e; simp [adAll] at g1
                            · exact e
      rw [(i4 g2 hk).2]; exact i3 hk a ha)
    have hk := kpL_inv hm.1 hm.2
    have hge := mdL_ge (adAll Ti k) (Ti k)
    have hle := mdL_len (adAll Ti k) (Ti k) i2
    have hkl : (mdL (adAll Ti k) (Ti k)).length < 120 → adAll Ti (k + 1) = mdL (adAll Ti k) (Ti k) ++ [Ti k] := fun g => by
      show kpL _ _ = _; unfold kpL; rw [if_pos g]
    have hkg : ¬ (mdL (adAll Ti k) (Ti k)).length < 120 → adAll Ti (k + 1) = mdL (adAll Ti k) (Ti k) := fun g => by
      show kpL _ _ = _; unfold kpL; rw [if_neg g]
    refine ⟨hk.1, kpL_len _ _ hle, fun _ a ha => hk.2 a ha, fun g _ => ?_, fun g => ?_, fun g => ?_⟩
    · by_cases g2 : (mdL (adAll Ti k) (Ti k)).length < 120
      · rw [hkl g2]
        refine ⟨by rw [List.length_append]; simp, ?_⟩
        unfold frL; rw [List.length_append]; simp [List.getD]
      · rw [hkg g2] at g; omega
    · have e1 : (adAll Ti k).length = k := i5 (by omega)
      show (adL (adAll Ti k) (Ti k)).length = k + 1
      rw [ad_small (by omega), List.length_append, e1]; rfl
    · rcases Nat.lt_or_ge k 2 with g1 | g1
      · have e1 : (adAll Ti k).length = k := i5 (by omega)
        show 2 ≤ (adL (adAll Ti k) (Ti k)).length
        rw [ad_small (by omega), List.length_append, e1]; simp; omega
      · have := i6 g1
        show 2 ≤ (kpL (mdL (adAll Ti k) (Ti k)) (Ti k)).length
        unfold kpL; split
        · rw [List.length_append]; omega
        · omega
theorem ad_full {L : List Nat} {x : Nat} (h : 120 ≤ L.length) : adL L x = L := by
  unfold adL mdL; rw [if_pos (Or.inr h)]; unfold kpL; rw [if_neg (by omega)]
theorem adAll_full {Ti : Nat → Nat} {i : Nat} (h : 120 ≤ (adAll Ti i).length) : ∀ j, adAll Ti (i + j) = adAll Ti i
  | 0 => rfl
  | j + 1 => by rw [show i + (j + 1) = (i + j) + 1 by omega]; show adL (adAll Ti (i + j)) _ = _; rw [adAll_full h j, ad_full h]
theorem adAll_congr {f g : Nat → Nat} : ∀ k, (∀ j, j < k → f j = g j) → adAll f k = adAll g k
  | 0, _ => rfl
  | k + 1, h => by simp only [adAll]; rw [adAll_congr k (fun j hj => h j (by omega)), h k (by omega)]
