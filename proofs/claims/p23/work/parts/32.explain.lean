/-! the model: tones of any part, what it explains -/
theorem rgN_lt {sh rg k : Nat} (h : 2 * sh - 1 ≤ k) (hs : 1 ≤ sh) (hk : k < 2 * sh - 1 + 4 * rg) : rgN sh k < rg := by unfold rgN; omega
theorem kd_ge {sh k : Nat} (h : 2 ≤ kdN sh k) : 2 * sh - 1 ≤ k := by
  unfold kdN at h; split at h
  · omega
  · split at h <;> omega
theorem kd_1 {sh k : Nat} (h : kdN sh k = 1) : sh ≤ k ∧ k < 2 * sh - 1 := by
  unfold kdN at h; split at h
  · omega
  · split at h <;> omega
theorem seN_lt {sh rg k : Nat} {U V Te Si Ba Sm Gr : Nat → Nat} (hM : ModM sh rg U V Te Si Ba Sm Gr) (hk : k < 2 * sh - 1 + 4 * rg) : seN sh Si k < sh := by
  unfold seN; split
  · assumption
  · split
    · omega
    · exact (hM.2.2.2.2 _ (rgN_lt (by omega) hM.1.1 hk)).1
theorem absL_ge {o : Int64} (h : 0 ≤ o) : absL o = o := by
  unfold absL; split
  · rfl
  · rename_i h2
    have e : o = 0 := Int64.le_antisymm (Int64.not_lt.mp h2) h
    subst e; rfl
theorem absL_lt {o : Int64} (h : ¬ 0 ≤ o) : absL o = -o := by
  unfold absL; rw [if_neg]
  exact fun h2 => h (Int64.le_of_lt h2)
theorem nm_f {o x s t b : Int64} (h : absL o = x) (c : s * t * b < 1000 * x) : s * (t * b) < absL o * 1000 := by rw [h, ← Int64.mul_assoc, Int64.mul_comm x 1000]; exact c
theorem nm_t {o x s t b : Int64} (h : absL o = x) (c : ¬ s * t * b < 1000 * x) : ¬ s * (t * b) < absL o * 1000 := by rw [h, ← Int64.mul_assoc, Int64.mul_comm x 1000]; exact c

set_option maxHeartbeats 1000000 in
theorem c_X9_findTone (l : Launch) (E : EnvT) (sz : Nat) (m0 : Nat) (sh : Nat) (rO : Nat) (rU : Nat) (rT : Nat) (rg : Nat) (rS : Nat) (rB : Nat) (rP : Nat) (rG : Nat) (ab0 : Int64) (be0 : Int64) (mk : Int32) (rM : Nat) (md : Int32) (rN : Nat) (rL : Nat) (rZ : Nat) (rE : Nat) (rI : Nat) (hc : Int32) (rA : Nat) (rX : Nat) (lnn : Int32) (rV : Nat) (rW : Nat) (sl : Int32) (rC : Nat) (rF : Nat) (rQ : Nat) (rK : Nat) (rR : Nat) (rD : Nat) (U : Nat → Nat) (V : Nat → Nat) (Te : Nat → Nat) (Si : Nat → Nat) (Ba : Nat → Nat) (Sm : Nat → Nat) (Gr : Nat → Nat) (k : Nat) (i : Nat) (hM : ModM sh rg U V Te Si Ba Sm Gr) (hk : k < 2 * sh - 1 + 4 * rg) (hi : i < tnN sh k) : Met l yX9_findTone wsX9_findTone ({ frames := 2, cells := 0, slots := 0, locals := 42 }) (va_Pc [.ref m0, .int (nI k), .int (nI i)] (PW E [(m0, .inr (9, [.int (nI sh), .ref rO, .ref rU, .ref rT, .int (nI rg), .ref rS, .ref rB, .ref rP, .ref rG, .long ab0, .long be0, .int mk, .ref rM, .int md, .ref rN, .ref rL, .ref rZ, .ref rE, .ref rI, .int hc, .ref rA, .ref rX, .int lnn, .ref rV, .ref rW, .int sl, .ref rC, .ref rF, .ref rQ, .ref rK, .ref rR, .ref rD])), (rO, .inl (E.2 2, 4, .inr (.inl (lA U)))), (rU, .inl (E.2 2, 4, .inr (.inl (lA V)))), (rT, .inl (E.2 1, 4, .inl (nA Te))), (rS, .inl (E.2 1, 8, .inl (nA Si))), (rB, .inl (E.2 1, 8, .inl (nA Ba))), (rP, .inl (E.2 1, 8, .inl (nA Sm))), (rG, .inl (E.2 1, 8, .inl (nA Gr)))] sz)) (va_Qv (fun (uu : Unit) => True) (fun (uu : Unit) t => BW E (va_A [(m0, .inr (9, [.int (nI sh), .ref rO, .ref rU, .ref rT, .int (nI rg), .ref rS, .ref rB, .ref rP, .ref rG, .long ab0, .long be0, .int mk, .ref rM, .int md, .ref rN, .ref rL, .ref rZ, .ref rE, .ref rI, .int hc, .ref rA, .ref rX, .int lnn, .ref rV, .ref rW, .int sl, .ref rC, .ref rF, .ref rQ, .ref rK, .ref rR, .ref rD])), (rO, .inl (E.2 2, 4, .inr (.inl (lA U)))), (rU, .inl (E.2 2, 4, .inr (.inl (lA V)))), (rT, .inl (E.2 1, 4, .inl (nA Te))), (rS, .inl (E.2 1, 8, .inl (nA Si))), (rB, .inl (E.2 1, 8, .inl (nA Ba))), (rP, .inl (E.2 1, 8, .inl (nA Sm))), (rG, .inl (E.2 1, 8, .inl (nA Gr)))] sz) [(m0, .inr (9, [.int (nI sh), .ref rO, .ref rU, .ref rT, .int (nI rg), .ref rS, .ref rB, .ref rP, .ref rG, .long (lN (toA sh U V Te Si Ba Sm Gr k i)), .long (lN (toB sh U V Te Si Ba Sm Gr k i)), .int mk, .ref rM, .int md, .ref rN, .ref rL, .ref rZ, .ref rE, .ref rI, .int hc, .ref rA, .ref rX, .int lnn, .ref rV, .ref rW, .int sl, .ref rC, .ref rF, .ref rQ, .ref rK, .ref rR, .ref rD])), (rO, .inl (E.2 2, 4, .inr (.inl (lA U)))), (rU, .inl (E.2 2, 4, .inr (.inl (lA V)))), (rT, .inl (E.2 1, 4, .inl (nA Te))), (rS, .inl (E.2 1, 8, .inl (nA Si))), (rB, .inl (E.2 1, 8, .inl (nA Ba))), (rP, .inl (E.2 1, 8, .inl (nA Sm))), (rG, .inl (E.2 1, 8, .inl (nA Gr)))] t) (va_A [(m0, .inr (9, [.int (nI sh), .ref rO, .ref rU, .ref rT, .int (nI rg), .ref rS, .ref rB, .ref rP, .ref rG, .long ab0, .long be0, .int mk, .ref rM, .int md, .ref rN, .ref rL, .ref rZ, .ref rE, .ref rI, .int hc, .ref rA, .ref rX, .int lnn, .ref rV, .ref rW, .int sl, .ref rC, .ref rF, .ref rQ, .ref rK, .ref rR, .ref rD])), (rO, .inl (E.2 2, 4, .inr (.inl (lA U)))), (rU, .inl (E.2 2, 4, .inr (.inl (lA V)))), (rT, .inl (E.2 1, 4, .inl (nA Te))), (rS, .inl (E.2 1, 8, .inl (nA Si))), (rB, .inl (E.2 1, 8, .inl (nA Ba))), (rP, .inl (E.2 1, 8, .inl (nA Sm))), (rG, .inl (E.2 1, 8, .inl (nA Gr)))] sz)) 0 0 (va_A [(m0, .inr (9, [.int (nI sh), .ref rO, .ref rU, .ref rT, .int (nI rg), .ref rS, .ref rB, .ref rP, .ref rG, .long ab0, .long be0, .int mk, .ref rM, .int md, .ref rN, .ref rL, .ref rZ, .ref rE, .ref rI, .int hc, .ref rA, .ref rX, .int lnn, .ref rV, .ref rW, .int sl, .ref rC, .ref rF, .ref rQ, .ref rK, .ref rR, .ref rD])), (rO, .inl (E.2 2, 4, .inr (.inl (lA U)))), (rU, .inl (E.2 2, 4, .inr (.inl (lA V)))), (rT, .inl (E.2 1, 4, .inl (nA Te))), (rS, .inl (E.2 1, 8, .inl (nA Si))), (rB, .inl (E.2 1, 8, .inl (nA Ba))), (rP, .inl (E.2 1, 8, .inl (nA Sm))), (rG, .inl (E.2 1, 8, .inl (nA Gr)))] sz) := by
  obtain ⟨⟨hs1, hs4, hr8⟩, hU, hV, hT, hR⟩ := id hM
  have hsl := seN_lt hM hk
  have hU1 := (hU _ hsl).1
  have hV1 := (hV _ hsl).1
  have hU2 := Nat.le_trans (hU _ hsl).2 (pw200 (by omega))
  have hV2 := Nat.le_trans (hV _ hsl).2 (pw200 (by omega))
  have hse : seN sh Si k < 4 := by omega
  have hk6 := kdN_lt (sh := sh) (k := k)
  have hkc : kdN sh k = 0 ∨ kdN sh k = 1 ∨ kdN sh k = 2 ∨ kdN sh k = 3 ∨ kdN sh k = 4 ∨ kdN sh k = 5 := by omega
  rcases hkc with hkd | hkd | hkd | hkd | hkd | hkd
  · have ht : tnN sh k = 3 := by rw [tnN, hkd]; rfl
    have hic : i = 0 ∨ i = 1 ∨ i = 2 := by omega
    rcases hic with rfl | rfl | rfl
    · have e1 : toA sh U V Te Si Ba Sm Gr k 0 = tA (U (seN sh Si k) * (1)) (V (seN sh Si k) * (1)) := by simp [toA, tmM, byM, t0M, hkd]
      have e2 : toB sh U V Te Si Ba Sm Gr k 0 = tB (U (seN sh Si k) * (1)) (V (seN sh Si k) * (1)) := by simp [toB, tmM, byM, t0M, hkd]
      rw [e1, e2]
      exact c_X9_findTone_0_0 l E sz m0 sh rO rU rT rg rS rB rP rG ab0 be0 mk rM md rN rL rZ rE rI hc rA rX lnn rV rW sl rC rF rQ rK rR rD U V Te Si Ba Sm Gr k hs1 hs4 hr8 hk hse hU1 hU2 hV1 hV2 hkd
    · have e1 : toA sh U V Te Si Ba Sm Gr k 1 = tA (U (seN sh Si k) * (2)) (V (seN sh Si k) * (1)) := by simp [toA, tmM, byM, t0M, hkd]
      have e2 : toB sh U V Te Si Ba Sm Gr k 1 = tB (U (seN sh Si k) * (2)) (V (seN sh Si k) * (1)) := by simp [toB, tmM, byM, t0M, hkd]
      rw [e1, e2]
      exact c_X9_findTone_0_1 l E sz m0 sh rO rU rT rg rS rB rP rG ab0 be0 mk rM md rN rL rZ rE rI hc rA rX lnn rV rW sl rC rF rQ rK rR rD U V Te Si Ba Sm Gr k hs1 hs4 hr8 hk hse hU1 hU2 hV1 hV2 hkd
    · have e1 : toA sh U V Te Si Ba Sm Gr k 2 = tA (U (seN sh Si k) * (3)) (V (seN sh Si k) * (1)) := by simp [toA, tmM, byM, t0M, hkd]
      have e2 : toB sh U V Te Si Ba Sm Gr k 2 = tB (U (seN sh Si k) * (3)) (V (seN sh Si k) * (1)) := by simp [toB, tmM, byM, t0M, hkd]
      rw [e1, e2]
      exact c_X9_findTone_0_2 l E sz m0 sh rO rU rT rg rS rB rP rG ab0 be0 mk rM md rN rL rZ rE rI hc rA rX lnn rV rW sl rC rF rQ rK rR rD U V Te Si Ba Sm Gr k hs1 hs4 hr8 hk hse hU1 hU2 hV1 hV2 hkd
  · have ht : tnN sh k = 2 := by rw [tnN, hkd]; rfl
    obtain ⟨hq1, hq2⟩ := kd_1 hkd
    have hse1 : 1 ≤ seN sh Si k := by unfold seN; rw [if_neg (by omega), if_pos hq2]; omega
    obtain ⟨ht1, ht2⟩ := hT _ hse1 hsl
    have hic : i = 0 ∨ i = 1 := by omega
    rcases hic with rfl | rfl
    · have e1 : toA sh U V Te Si Ba Sm Gr k 0 = tA (U (seN sh Si k) * (1 * Te (seN sh Si k))) (V (seN sh Si k) * (1)) := by simp [toA, tmM, byM, t0M, hkd]
      have e2 : toB sh U V Te Si Ba Sm Gr k 0 = tB (U (seN sh Si k) * (1 * Te (seN sh Si k))) (V (seN sh Si k) * (1)) := by simp [toB, tmM, byM, t0M, hkd]
      rw [e1, e2]
      exact c_X9_findTone_1_0 l E sz m0 sh rO rU rT rg rS rB rP rG ab0 be0 mk rM md rN rL rZ rE rI hc rA rX lnn rV rW sl rC rF rQ rK rR rD U V Te Si Ba Sm Gr k hs1 hs4 hr8 hk hse hU1 hU2 hV1 hV2 hkd ht1 ht2
    · have e1 : toA sh U V Te Si Ba Sm Gr k 1 = tA (U (seN sh Si k) * (2 * Te (seN sh Si k))) (V (seN sh Si k) * (1)) := by simp [toA, tmM, byM, t0M, hkd]
      have e2 : toB sh U V Te Si Ba Sm Gr k 1 = tB (U (seN sh Si k) * (2 * Te (seN sh Si k))) (V (seN sh Si k) * (1)) := by simp [toB, tmM, byM, t0M, hkd]
      rw [e1, e2]
      exact c_X9_findTone_1_1 l E sz m0 sh rO rU rT rg rS rB rP rG ab0 be0 mk rM md rN rL rZ rE rI hc rA rX lnn rV rW sl rC rF rQ rK rR rD U V Te Si Ba Sm Gr k hs1 hs4 hr8 hk hse hU1 hU2 hV1 hV2 hkd ht1 ht2
  · have ht : tnN sh k = 2 := by rw [tnN, hkd]; rfl
    have hk2 := kd_ge (sh := sh) (k := k) (by omega)
    have hrl := rgN_lt hk2 hs1 hk
    obtain ⟨-, ⟨hb1, hb2⟩, hp1, hpq, hq2⟩ := hR _ hrl
    have hrr : rgN sh k < 8 := by omega
    have hic : i = 0 ∨ i = 1 := by omega
    rcases hic with rfl | rfl
    · have e1 : toA sh U V Te Si Ba Sm Gr k 0 = tA (U (seN sh Si k) * (Ba (rgN sh k) * (Gr (rgN sh k) - Sm (rgN sh k)))) (V (seN sh Si k) * (2 * Gr (rgN sh k))) := by simp [toA, tmM, byM, t0M, hkd]
      have e2 : toB sh U V Te Si Ba Sm Gr k 0 = tB (U (seN sh Si k) * (Ba (rgN sh k) * (Gr (rgN sh k) - Sm (rgN sh k)))) (V (seN sh Si k) * (2 * Gr (rgN sh k))) := by simp [toB, tmM, byM, t0M, hkd]
      rw [e1, e2]
      exact c_X9_findTone_2_0 l E sz m0 sh rO rU rT rg rS rB rP rG ab0 be0 mk rM md rN rL rZ rE rI hc rA rX lnn rV rW sl rC rF rQ rK rR rD U V Te Si Ba Sm Gr k hs1 hs4 hr8 hk hse hU1 hU2 hV1 hV2 hkd hk2 hrr hb1 hb2 hp1 hpq hq2
    · have e1 : toA sh U V Te Si Ba Sm Gr k 1 = tA (U (seN sh Si k) * (2 * (Ba (rgN sh k) * (Gr (rgN sh k) - Sm (rgN sh k))))) (V (seN sh Si k) * (2 * Gr (rgN sh k))) := by simp [toA, tmM, byM, t0M, hkd]
      have e2 : toB sh U V Te Si Ba Sm Gr k 1 = tB (U (seN sh Si k) * (2 * (Ba (rgN sh k) * (Gr (rgN sh k) - Sm (rgN sh k))))) (V (seN sh Si k) * (2 * Gr (rgN sh k))) := by simp [toB, tmM, byM, t0M, hkd]
      rw [e1, e2]
      exact c_X9_findTone_2_1 l E sz m0 sh rO rU rT rg rS rB rP rG ab0 be0 mk rM md rN rL rZ rE rI hc rA rX lnn rV rW sl rC rF rQ rK rR rD U V Te Si Ba Sm Gr k hs1 hs4 hr8 hk hse hU1 hU2 hV1 hV2 hkd hk2 hrr hb1 hb2 hp1 hpq hq2
  · have ht : tnN sh k = 3 := by rw [tnN, hkd]; rfl
    have hk2 := kd_ge (sh := sh) (k := k) (by omega)
    have hrl := rgN_lt hk2 hs1 hk
    obtain ⟨-, ⟨hb1, hb2⟩, hp1, hpq, hq2⟩ := hR _ hrl
    have hrr : rgN sh k < 8 := by omega
    have hic : i = 0 ∨ i = 1 ∨ i = 2 := by omega
    rcases hic with rfl | rfl | rfl
    · have e1 : toA sh U V Te Si Ba Sm Gr k 0 = tA (U (seN sh Si k) * (Ba (rgN sh k) * (Gr (rgN sh k) + Sm (rgN sh k)))) (V (seN sh Si k) * (2 * Gr (rgN sh k))) := by simp [toA, tmM, byM, t0M, hkd]
      have e2 : toB sh U V Te Si Ba Sm Gr k 0 = tB (U (seN sh Si k) * (Ba (rgN sh k) * (Gr (rgN sh k) + Sm (rgN sh k)))) (V (seN sh Si k) * (2 * Gr (rgN sh k))) := by simp [toB, tmM, byM, t0M, hkd]
      rw [e1, e2]
      exact c_X9_findTone_3_0 l E sz m0 sh rO rU rT rg rS rB rP rG ab0 be0 mk rM md rN rL rZ rE rI hc rA rX lnn rV rW sl rC rF rQ rK rR rD U V Te Si Ba Sm Gr k hs1 hs4 hr8 hk hse hU1 hU2 hV1 hV2 hkd hk2 hrr hb1 hb2 hp1 hpq hq2
    · have e1 : toA sh U V Te Si Ba Sm Gr k 1 = tA (U (seN sh Si k) * (2 * (Ba (rgN sh k) * (Gr (rgN sh k) + Sm (rgN sh k))))) (V (seN sh Si k) * (2 * Gr (rgN sh k))) := by simp [toA, tmM, byM, t0M, hkd]
      have e2 : toB sh U V Te Si Ba Sm Gr k 1 = tB (U (seN sh Si k) * (2 * (Ba (rgN sh k) * (Gr (rgN sh k) + Sm (rgN sh k))))) (V (seN sh Si k) * (2 * Gr (rgN sh k))) := by simp [toB, tmM, byM, t0M, hkd]
      rw [e1, e2]
      exact c_X9_findTone_3_1 l E sz m0 sh rO rU rT rg rS rB rP rG ab0 be0 mk rM md rN rL rZ rE rI hc rA rX lnn rV rW sl rC rF rQ rK rR rD U V Te Si Ba Sm Gr k hs1 hs4 hr8 hk hse hU1 hU2 hV1 hV2 hkd hk2 hrr hb1 hb2 hp1 hpq hq2
    · have e1 : toA sh U V Te Si Ba Sm Gr k 2 = tA (U (seN sh Si k) * (Ba (rgN sh k) * (Gr (rgN sh k) + Sm (rgN sh k)) - 2 * Gr (rgN sh k))) (V (seN sh Si k) * (2 * Gr (rgN sh k))) := by simp [toA, tmM, byM, t0M, hkd]
      have e2 : toB sh U V Te Si Ba Sm Gr k 2 = tB (U (seN sh Si k) * (Ba (rgN sh k) * (Gr (rgN sh k) + Sm (rgN sh k)) - 2 * Gr (rgN sh k))) (V (seN sh Si k) * (2 * Gr (rgN sh k))) := by simp [toB, tmM, byM, t0M, hkd]
      rw [e1, e2]
      exact c_X9_findTone_3_2 l E sz m0 sh rO rU rT rg rS rB rP rG ab0 be0 mk rM md rN rL rZ rE rI hc rA rX lnn rV rW sl rC rF rQ rK rR rD U V Te Si Ba Sm Gr k hs1 hs4 hr8 hk hse hU1 hU2 hV1 hV2 hkd hk2 hrr hb1 hb2 hp1 hpq hq2
  · have ht : tnN sh k = 1 := by rw [tnN, hkd]; rfl
    have hk2 := kd_ge (sh := sh) (k := k) (by omega)
    have hrl := rgN_lt hk2 hs1 hk
    obtain ⟨-, ⟨hb1, hb2⟩, hp1, hpq, hq2⟩ := hR _ hrl
    have hrr : rgN sh k < 8 := by omega
    have hic : i = 0 := by omega
    subst hic
    have e1 : toA sh U V Te Si Ba Sm Gr k 0 = tA (U (seN sh Si k) * (Gr (rgN sh k) - Sm (rgN sh k))) (V (seN sh Si k) * (2 * Gr (rgN sh k))) := by simp [toA, tmM, byM, t0M, hkd]
    have e2 : toB sh U V Te Si Ba Sm Gr k 0 = tB (U (seN sh Si k) * (Gr (rgN sh k) - Sm (rgN sh k))) (V (seN sh Si k) * (2 * Gr (rgN sh k))) := by simp [toB, tmM, byM, t0M, hkd]
    rw [e1, e2]
    exact c_X9_findTone_4_0 l E sz m0 sh rO rU rT rg rS rB rP rG ab0 be0 mk rM md rN rL rZ rE rI hc rA rX lnn rV rW sl rC rF rQ rK rR rD U V Te Si Ba Sm Gr k hs1 hs4 hr8 hk hse hU1 hU2 hV1 hV2 hkd hk2 hrr hb1 hb2 hp1 hpq hq2
  · have ht : tnN sh k = 2 := by rw [tnN, hkd]; rfl
    have hk2 := kd_ge (sh := sh) (k := k) (by omega)
    have hrl := rgN_lt hk2 hs1 hk
    obtain ⟨-, ⟨hb1, hb2⟩, hp1, hpq, hq2⟩ := hR _ hrl
    have hrr : rgN sh k < 8 := by omega
    have hic : i = 0 ∨ i = 1 := by omega
    rcases hic with rfl | rfl
    · have e1 : toA sh U V Te Si Ba Sm Gr k 0 = tA (U (seN sh Si k) * (Gr (rgN sh k) * Gr (rgN sh k) - Sm (rgN sh k) * Sm (rgN sh k))) (V (seN sh Si k) * (2 * Sm (rgN sh k) * Gr (rgN sh k))) := by simp [toA, tmM, byM, t0M, hkd]
      have e2 : toB sh U V Te Si Ba Sm Gr k 0 = tB (U (seN sh Si k) * (Gr (rgN sh k) * Gr (rgN sh k) - Sm (rgN sh k) * Sm (rgN sh k))) (V (seN sh Si k) * (2 * Sm (rgN sh k) * Gr (rgN sh k))) := by simp [toB, tmM, byM, t0M, hkd]
      rw [e1, e2]
      exact c_X9_findTone_5_0 l E sz m0 sh rO rU rT rg rS rB rP rG ab0 be0 mk rM md rN rL rZ rE rI hc rA rX lnn rV rW sl rC rF rQ rK rR rD U V Te Si Ba Sm Gr k hs1 hs4 hr8 hk hse hU1 hU2 hV1 hV2 hkd hk2 hrr hb1 hb2 hp1 hpq hq2
    · have e1 : toA sh U V Te Si Ba Sm Gr k 1 = tA (U (seN sh Si k) * (2 * (Gr (rgN sh k) * Gr (rgN sh k) - Sm (rgN sh k) * Sm (rgN sh k)))) (V (seN sh Si k) * (2 * Sm (rgN sh k) * Gr (rgN sh k))) := by simp [toA, tmM, byM, t0M, hkd]
      have e2 : toB sh U V Te Si Ba Sm Gr k 1 = tB (U (seN sh Si k) * (2 * (Gr (rgN sh k) * Gr (rgN sh k) - Sm (rgN sh k) * Sm (rgN sh k)))) (V (seN sh Si k) * (2 * Sm (rgN sh k) * Gr (rgN sh k))) := by simp [toB, tmM, byM, t0M, hkd]
      rw [e1, e2]
      exact c_X9_findTone_5_1 l E sz m0 sh rO rU rT rg rS rB rP rG ab0 be0 mk rM md rN rL rZ rE rI hc rA rX lnn rV rW sl rC rF rQ rK rR rD U V Te Si Ba Sm Gr k hs1 hs4 hr8 hk hse hU1 hU2 hV1 hV2 hkd hk2 hrr hb1 hb2 hp1 hpq hq2
set_option maxHeartbeats 1000000 in
set_option maxRecDepth 100000 in
theorem c_X9_nearOf (l : Launch) (E : EnvT) (sz : Nat) (m0 : Nat) (sh : Nat) (rO : Nat) (rU : Nat) (rT : Nat) (rg : Nat) (rS : Nat) (rB : Nat) (rP : Nat) (rG : Nat) (ab0 : Int64) (be0 : Int64) (mk : Int32) (rM : Nat) (md : Int32) (rN : Nat) (rL : Nat) (rZ : Nat) (rE : Nat) (rI : Nat) (hc : Int32) (rA : Nat) (rX : Nat) (n : Nat) (rV : Nat) (rW : Nat) (th : Nat) (rC : Nat) (rF : Nat) (rQ : Nat) (rK : Nat) (rR : Nat) (rD : Nat) (U : Nat → Nat) (V : Nat → Nat) (Te : Nat → Nat) (Si : Nat → Nat) (Ba : Nat → Nat) (Sm : Nat → Nat) (Gr : Nat → Nat) (To : Nat → Int32) (Bo : Nat → Int32) (k : Nat) (i : Nat) (hM : ModM sh rg U V Te Si Ba Sm Gr) (hk : k < 2 * sh - 1 + 4 * rg) (hi : i < tnN sh k) (hn : n ≤ 12) (hth : th ≤ 100) : Met l yX9_nearOf wsX9_nearOf ({ frames := 3, cells := 0, slots := 0, locals := 75 }) (va_Pc [.ref m0, .int (nI k), .int (nI i)] (PW E [(m0, .inr (9, [.int (nI sh), .ref rO, .ref rU, .ref rT, .int (nI rg), .ref rS, .ref rB, .ref rP, .ref rG, .long ab0, .long be0, .int mk, .ref rM, .int md, .ref rN, .ref rL, .ref rZ, .ref rE, .ref rI, .int hc, .ref rA, .ref rX, .int (nI n), .ref rV, .ref rW, .int (nI th), .ref rC, .ref rF, .ref rQ, .ref rK, .ref rR, .ref rD])), (rO, .inl (E.2 2, 4, .inr (.inl (lA U)))), (rU, .inl (E.2 2, 4, .inr (.inl (lA V)))), (rT, .inl (E.2 1, 4, .inl (nA Te))), (rS, .inl (E.2 1, 8, .inl (nA Si))), (rB, .inl (E.2 1, 8, .inl (nA Ba))), (rP, .inl (E.2 1, 8, .inl (nA Sm))), (rG, .inl (E.2 1, 8, .inl (nA Gr))), (rV, .inl (E.2 1, 12, .inl To)), (rW, .inl (E.2 1, 12, .inl Bo))] sz)) (va_Qi (fun (r : Int32) (uu : Unit) => r = nI (nearN To Bo th (lN (toA sh U V Te Si Ba Sm Gr k i)) (lN (toB sh U V Te Si Ba Sm Gr k i)) n)) (fun (uu : Unit) t => BW E (va_A [(m0, .inr (9, [.int (nI sh), .ref rO, .ref rU, .ref rT, .int (nI rg), .ref rS, .ref rB, .ref rP, .ref rG, .long ab0, .long be0, .int mk, .ref rM, .int md, .ref rN, .ref rL, .ref rZ, .ref rE, .ref rI, .int hc, .ref rA, .ref rX, .int (nI n), .ref rV, .ref rW, .int (nI th), .ref rC, .ref rF, .ref rQ, .ref rK, .ref rR, .ref rD])), (rO, .inl (E.2 2, 4, .inr (.inl (lA U)))), (rU, .inl (E.2 2, 4, .inr (.inl (lA V)))), (rT, .inl (E.2 1, 4, .inl (nA Te))), (rS, .inl (E.2 1, 8, .inl (nA Si))), (rB, .inl (E.2 1, 8, .inl (nA Ba))), (rP, .inl (E.2 1, 8, .inl (nA Sm))), (rG, .inl (E.2 1, 8, .inl (nA Gr))), (rV, .inl (E.2 1, 12, .inl To)), (rW, .inl (E.2 1, 12, .inl Bo))] sz) [(m0, .inr (9, [.int (nI sh), .ref rO, .ref rU, .ref rT, .int (nI rg), .ref rS, .ref rB, .ref rP, .ref rG, .long (lN (toA sh U V Te Si Ba Sm Gr k i)), .long (lN (toB sh U V Te Si Ba Sm Gr k i)), .int mk, .ref rM, .int md, .ref rN, .ref rL, .ref rZ, .ref rE, .ref rI, .int hc, .ref rA, .ref rX, .int (nI n), .ref rV, .ref rW, .int (nI th), .ref rC, .ref rF, .ref rQ, .ref rK, .ref rR, .ref rD])), (rO, .inl (E.2 2, 4, .inr (.inl (lA U)))), (rU, .inl (E.2 2, 4, .inr (.inl (lA V)))), (rT, .inl (E.2 1, 4, .inl (nA Te))), (rS, .inl (E.2 1, 8, .inl (nA Si))), (rB, .inl (E.2 1, 8, .inl (nA Ba))), (rP, .inl (E.2 1, 8, .inl (nA Sm))), (rG, .inl (E.2 1, 8, .inl (nA Gr))), (rV, .inl (E.2 1, 12, .inl To)), (rW, .inl (E.2 1, 12, .inl Bo))] t) (va_A [(m0, .inr (9, [.int (nI sh), .ref rO, .ref rU, .ref rT, .int (nI rg), .ref rS, .ref rB, .ref rP, .ref rG, .long ab0, .long be0, .int mk, .ref rM, .int md, .ref rN, .ref rL, .ref rZ, .ref rE, .ref rI, .int hc, .ref rA, .ref rX, .int (nI n), .ref rV, .ref rW, .int (nI th), .ref rC, .ref rF, .ref rQ, .ref rK, .ref rR, .ref rD])), (rO, .inl (E.2 2, 4, .inr (.inl (lA U)))), (rU, .inl (E.2 2, 4, .inr (.inl (lA V)))), (rT, .inl (E.2 1, 4, .inl (nA Te))), (rS, .inl (E.2 1, 8, .inl (nA Si))), (rB, .inl (E.2 1, 8, .inl (nA Ba))), (rP, .inl (E.2 1, 8, .inl (nA Sm))), (rG, .inl (E.2 1, 8, .inl (nA Gr))), (rV, .inl (E.2 1, 12, .inl To)), (rW, .inl (E.2 1, 12, .inl Bo))] sz)) 0 0 (va_A [(m0, .inr (9, [.int (nI sh), .ref rO, .ref rU, .ref rT, .int (nI rg), .ref rS, .ref rB, .ref rP, .ref rG, .long ab0, .long be0, .int mk, .ref rM, .int md, .ref rN, .ref rL, .ref rZ, .ref rE, .ref rI, .int hc, .ref rA, .ref rX, .int (nI n), .ref rV, .ref rW, .int (nI th), .ref rC, .ref rF, .ref rQ, .ref rK, .ref rR, .ref rD])), (rO, .inl (E.2 2, 4, .inr (.inl (lA U)))), (rU, .inl (E.2 2, 4, .inr (.inl (lA V)))), (rT, .inl (E.2 1, 4, .inl (nA Te))), (rS, .inl (E.2 1, 8, .inl (nA Si))), (rB, .inl (E.2 1, 8, .inl (nA Ba))), (rP, .inl (E.2 1, 8, .inl (nA Sm))), (rG, .inl (E.2 1, 8, .inl (nA Gr))), (rV, .inl (E.2 1, 12, .inl To)), (rW, .inl (E.2 1, 12, .inl Bo))] sz) := by
  refine Met.ofW (cc := cX9_nearOf) (maxL := 7) (ret := (some .int)) (by decide +kernel) rfl ?_
  intro p e s m args below meth c s₁ B hml hv
  obtain ⟨rfl, hsz, hP, hE, hD0⟩ := hv
  have hx := B.exec
  have hb := B.bytes
  have hr := B.returns
  have hts := atoms_spec (ws := wsX9_nearOf) B.pre
  have hown : s.vm.findClass RX9 = some m.cls := findClass_of_methodNamed B.named
  have hlocks := B.notSynchronized
  have hK := hE.1
  have hNN := hE.2.1
  have hinX9 : ∀ w ∈ wsX90, w ∈ wsX9_nearOf := fun w h => List.mem_cons_of_mem _ (List.mem_append_right _ h)
  subst hsz
  have hD := hD0.self (sz := s.heap.size)
  generalize hAe : va_A [(m0, .inr (9, [.int (nI sh), .ref rO, .ref rU, .ref rT, .int (nI rg), .ref rS, .ref rB, .ref rP, .ref rG, .long ab0, .long be0, .int mk, .ref rM, .int md, .ref rN, .ref rL, .ref rZ, .ref rE, .ref rI, .int hc, .ref rA, .ref rX, .int (nI n), .ref rV, .ref rW, .int (nI th), .ref rC, .ref rF, .ref rQ, .ref rK, .ref rR, .ref rD])), (rO, .inl (E.2 2, 4, .inr (.inl (lA U)))), (rU, .inl (E.2 2, 4, .inr (.inl (lA V)))), (rT, .inl (E.2 1, 4, .inl (nA Te))), (rS, .inl (E.2 1, 8, .inl (nA Si))), (rB, .inl (E.2 1, 8, .inl (nA Ba))), (rP, .inl (E.2 1, 8, .inl (nA Sm))), (rG, .inl (E.2 1, 8, .inl (nA Gr))), (rV, .inl (E.2 1, 12, .inl To)), (rW, .inl (E.2 1, 12, .inl Bo))] s.heap.size = A at hD ⊢
  have hA : ∀ q : Nat, s.heap.size ≤ q → A q := fun q h => by rw [← hAe]; exact Or.inr h
  have hS : va_S A s.heap s.heap [] := va_S.rf
  have hl := lv_entry ([.ref m0, .int (nI k), .int (nI i)]) (n := 7) (Nat.le_of_ble_eq_true rfl)
  rw [lg_entry_eq]
  generalize (lg_sl ([.ref m0, .int (nI k), .int (nI i)]) ++ List.replicate (7 - (lg_sl ([.ref m0, .int (nI k), .int (nI i)])).length) Slot.unset).toArray = ls at hl ⊢
  have hl : lv_has ls 7 [(0, .ref m0), (1, .int (nI k)), (2, .int (nI i))] := hl
  refine lv_aload_n hx hb dX9_nearOf_0 rfl (lv_at hl 0 rfl) ?_
  refine lv_iload_n hx hb dX9_nearOf_1 rfl (lv_at hl 1 rfl) ?_
  refine lv_iload_n hx hb dX9_nearOf_2 rfl (lv_at hl 2 rfl) ?_
  refine wVv (wr := [(rV, .inl (E.2 1, 12, .inl To)), (rW, .inl (E.2 1, 12, .inl Bo))]) hE ⟨hx, hb, hml, hown, hts⟩ (c_X9_findTone l E s.heap.size m0 sh rO rU rT rg rS rB rP rG ab0 be0 mk rM md rN rL rZ rE rI hc rA rX (nI n) rV rW (nI th) rC rF rQ rK rR rD U V Te Si Ba Sm Gr k i (hM) (hk) (hi)) (cwV 2 hts gX9_nearOf_X9_findTone rfl rfl rfl (by decide +kernel) ⟨Nat.le_of_ble_eq_true rfl, Nat.le_of_ble_eq_true rfl⟩) hP hD hS hA [0, 1, 2, 3, 4, 5, 6, 7] [8, 9] rfl rfl (by decide) (by decide) (by decide) 0 9 rfl rfl rfl hl.1 rfl (Nat.le_of_ble_eq_true rfl) dX9_nearOf_3 ⟨(Nat.zero_le _), (Nat.zero_le _)⟩ (fun u H locs hw hP hD hS => ?_)
  have hP : va_P E.1 vwCl [(rV, .inl (E.2 1, 12, .inl To)), (rW, .inl (E.2 1, 12, .inl Bo)), (m0, .inr (9, [.int (nI sh), .ref rO, .ref rU, .ref rT, .int (nI rg), .ref rS, .ref rB, .ref rP, .ref rG, .long (lN (toA sh U V Te Si Ba Sm Gr k i)), .long (lN (toB sh U V Te Si Ba Sm Gr k i)), .int mk, .ref rM, .int md, .ref rN, .ref rL, .ref rZ, .ref rE, .ref rI, .int hc, .ref rA, .ref rX, .int (nI n), .ref rV, .ref rW, .int (nI th), .ref rC, .ref rF, .ref rQ, .ref rK, .ref rR, .ref rD])), (rO, .inl (E.2 2, 4, .inr (.inl (lA U)))), (rU, .inl (E.2 2, 4, .inr (.inl (lA V)))), (rT, .inl (E.2 1, 4, .inl (nA Te))), (rS, .inl (E.2 1, 8, .inl (nA Si))), (rB, .inl (E.2 1, 8, .inl (nA Ba))), (rP, .inl (E.2 1, 8, .inl (nA Sm))), (rG, .inl (E.2 1, 8, .inl (nA Gr)))] H := hP
  have hD : va_D A [(rV, .inl (E.2 1, 12, .inl To)), (rW, .inl (E.2 1, 12, .inl Bo)), (m0, .inr (9, [.int (nI sh), .ref rO, .ref rU, .ref rT, .int (nI rg), .ref rS, .ref rB, .ref rP, .ref rG, .long (lN (toA sh U V Te Si Ba Sm Gr k i)), .long (lN (toB sh U V Te Si Ba Sm Gr k i)), .int mk, .ref rM, .int md, .ref rN, .ref rL, .ref rZ, .ref rE, .ref rI, .int hc, .ref rA, .ref rX, .int (nI n), .ref rV, .ref rW, .int (nI th), .ref rC, .ref rF, .ref rQ, .ref rK, .ref rR, .ref rD])), (rO, .inl (E.2 2, 4, .inr (.inl (lA U)))), (rU, .inl (E.2 2, 4, .inr (.inl (lA V)))), (rT, .inl (E.2 1, 4, .inl (nA Te))), (rS, .inl (E.2 1, 8, .inl (nA Si))), (rB, .inl (E.2 1, 8, .inl (nA Ba))), (rP, .inl (E.2 1, 8, .inl (nA Sm))), (rG, .inl (E.2 1, 8, .inl (nA Gr)))] := hD
  refine lv_iconst (v := 0) hx hb dX9_nearOf_6 (by decide) ?_
  refine lv_istore_n (lv' := [(3, .int 0), (0, .ref m0), (1, .int (nI k)), (2, .int (nI i))]) hx hb dX9_nearOf_7 rfl hl (by decide) rfl (fun ls hl => ?_)
  refine lv_iconst (v := 0) hx hb dX9_nearOf_8 (by decide) ?_
  refine lv_istore (lv' := [(4, .int 0), (3, .int 0), (0, .ref m0), (1, .int (nI k)), (2, .int (nI i))]) hx hb dX9_nearOf_9 hl (by decide) rfl (fun ls hl => ?_)
  refine (fun (lp11 : ∀ (n9 : Nat) (j : Nat) (ls : Array Slot), (n - j) < n9 → (j ≤ n) → lv_has ls 7 [(0, .ref m0), (1, .int (nI k)), (2, .int (nI i)), (3, .int (nI (nearN To Bo th (lN (toA sh U V Te Si Ba Sm Gr k i)) (lN (toB sh U V Te Si Ba Sm Gr k i)) j))), (4, .int (nI j))] → W p l e _ s m _ below meth c H locs _ _ _ (F0 m 11 ls [])) => lp11 (n + 1) 0 _ (by omega) (by omega) (lv_sub hl [2, 3, 4, 1, 0] rfl)) ?_
  intro n11
  induction n11 with
  | zero => intro j ls h0; exact absurd (by assumption) (Nat.not_lt_zero _)
  | succ n11 ih11 =>
    intro j ls hmu11 hj hl
    have hb9 := nearN_lt To Bo th (lN (toA sh U V Te Si Ba Sm Gr k i)) (lN (toB sh U V Te Si Ba Sm Gr k i)) j
    refine lv_iload hx hb dX9_nearOf_11 (lv_at hl 4 rfl) ?_
    refine lv_aload_n hx hb dX9_nearOf_13 rfl (lv_at hl 0 rfl) ?_
    refine va_get (D := E.1) (ci := 9) (v := .int (nI n)) (C := RX9) (T := TX9) (N := 32) hx hb hts hinX9 hown hK hP 2 rfl rfl 22 (by decide) (hts (.fieldLink RX9 200 "WornRingsModel" "lines" "I") (by decide +kernel)) (fun _ h9 => h9) rfl dX9_nearOf_14 ?_
    refine lv_icmp_ge (tgt := 112) hx hb dX9_nearOf_17 (by decide) (fun c_17 => ?_) (fun c_17 => ?_)
    · have c_17 : n ≤ j := (nI_leI (a := n) (b := j) (by omega) (by omega)).mp c_17
      refine lv_iload_n hx hb dX9_nearOf_112 rfl (lv_at hl 3 rfl) ?_
      have hP9 : va_P E.1 vwCl [(m0, .inr (9, [.int (nI sh), .ref rO, .ref rU, .ref rT, .int (nI rg), .ref rS, .ref rB, .ref rP, .ref rG, .long (lN (toA sh U V Te Si Ba Sm Gr k i)), .long (lN (toB sh U V Te Si Ba Sm Gr k i)), .int mk, .ref rM, .int md, .ref rN, .ref rL, .ref rZ, .ref rE, .ref rI, .int hc, .ref rA, .ref rX, .int (nI n), .ref rV, .ref rW, .int (nI th), .ref rC, .ref rF, .ref rQ, .ref rK, .ref rR, .ref rD])), (rO, .inl (E.2 2, 4, .inr (.inl (lA U)))), (rU, .inl (E.2 2, 4, .inr (.inl (lA V)))), (rT, .inl (E.2 1, 4, .inl (nA Te))), (rS, .inl (E.2 1, 8, .inl (nA Si))), (rB, .inl (E.2 1, 8, .inl (nA Ba))), (rP, .inl (E.2 1, 8, .inl (nA Sm))), (rG, .inl (E.2 1, 8, .inl (nA Gr))), (rV, .inl (E.2 1, 12, .inl To)), (rW, .inl (E.2 1, 12, .inl Bo))] H := hP.sub [2, 3, 4, 5, 6, 7, 8, 9, 0, 1] rfl
      have hD9 : va_D A [(m0, .inr (9, [.int (nI sh), .ref rO, .ref rU, .ref rT, .int (nI rg), .ref rS, .ref rB, .ref rP, .ref rG, .long (lN (toA sh U V Te Si Ba Sm Gr k i)), .long (lN (toB sh U V Te Si Ba Sm Gr k i)), .int mk, .ref rM, .int md, .ref rN, .ref rL, .ref rZ, .ref rE, .ref rI, .int hc, .ref rA, .ref rX, .int (nI n), .ref rV, .ref rW, .int (nI th), .ref rC, .ref rF, .ref rQ, .ref rK, .ref rR, .ref rD])), (rO, .inl (E.2 2, 4, .inr (.inl (lA U)))), (rU, .inl (E.2 2, 4, .inr (.inl (lA V)))), (rT, .inl (E.2 1, 4, .inl (nA Te))), (rS, .inl (E.2 1, 8, .inl (nA Si))), (rB, .inl (E.2 1, 8, .inl (nA Ba))), (rP, .inl (E.2 1, 8, .inl (nA Sm))), (rG, .inl (E.2 1, 8, .inl (nA Gr))), (rV, .inl (E.2 1, 12, .inl To)), (rW, .inl (E.2 1, 12, .inl Bo))] := hD.sub [2, 3, 4, 5, 6, 7, 8, 9, 0, 1] (by decide) rfl
      exact W.iret (v := nI (nearN To Bo th (lN (toA sh U V Te Si Ba Sm Gr k i)) (lN (toB sh U V Te Si Ba Sm Gr k i)) j)) hx hb hr (fun t9 ht9 hW9 => ⟨⟨nI (nearN To Bo th (lN (toA sh U V Te Si Ba Sm Gr k i)) (lN (toB sh U V Te Si Ba Sm Gr k i)) j), (), rfl, by rw [show j = n by omega], ⟨by rw [ht9]; exact hP9, hD9⟩⟩, hS.F ht9⟩) hS.2.2 dX9_nearOf_113
    · have c_17 : ¬ n ≤ j := fun h9 => c_17 ((nI_leI (a := n) (b := j) (by omega) (by omega)).mpr h9)
      refine lv_aload_n hx hb dX9_nearOf_20 rfl (lv_at hl 0 rfl) ?_
      refine va_get (D := E.1) (ci := 9) (v := .ref rV) (C := RX9) (T := TX9) (N := 32) hx hb hts hinX9 hown hK hP 2 rfl rfl 23 (by decide) (hts (.fieldLink RX9 60 "WornRingsModel" "tops" "[I") (by decide +kernel)) (fun _ h9 => h9) rfl dX9_nearOf_21 ?_
      refine lv_iload hx hb dX9_nearOf_24 (lv_at hl 4 rfl) ?_
      refine va_iald hx hb hK hP 0 1 rfl rfl (vp_in_nI (by omega) (by omega)) dX9_nearOf_26 ?_
      rw [nI_clamp (n := j) (by omega)]
      refine lv_i2l (v := (To j).toInt64) hx hb dX9_nearOf_27 (rfl) ?_
      refine lv_aload_n hx hb dX9_nearOf_28 rfl (lv_at hl 0 rfl) ?_
      refine va_get (D := E.1) (ci := 9) (v := .long (lN (toB sh U V Te Si Ba Sm Gr k i))) (C := RX9) (T := TX9) (N := 32) hx hb hts hinX9 hown hK hP 2 rfl rfl 10 (by decide) (hts (.fieldLink RX9 93 "WornRingsModel" "below" "J") (by decide +kernel)) (fun _ h9 => h9) rfl dX9_nearOf_29 ?_
      refine lv_lmul hx hb dX9_nearOf_32 ?_
      refine lv_aload_n hx hb dX9_nearOf_33 rfl (lv_at hl 0 rfl) ?_
      refine va_get (D := E.1) (ci := 9) (v := .long (lN (toA sh U V Te Si Ba Sm Gr k i))) (C := RX9) (T := TX9) (N := 32) hx hb hts hinX9 hown hK hP 2 rfl rfl 9 (by decide) (hts (.fieldLink RX9 89 "WornRingsModel" "above" "J") (by decide +kernel)) (fun _ h9 => h9) rfl dX9_nearOf_34 ?_
      refine lv_aload_n hx hb dX9_nearOf_37 rfl (lv_at hl 0 rfl) ?_
      refine va_get (D := E.1) (ci := 9) (v := .ref rW) (C := RX9) (T := TX9) (N := 32) hx hb hts hinX9 hown hK hP 2 rfl rfl 24 (by decide) (hts (.fieldLink RX9 63 "WornRingsModel" "bottoms" "[I") (by decide +kernel)) (fun _ h9 => h9) rfl dX9_nearOf_38 ?_
      refine lv_iload hx hb dX9_nearOf_41 (lv_at hl 4 rfl) ?_
      refine va_iald hx hb hK hP 1 1 rfl rfl (vp_in_nI (by omega) (by omega)) dX9_nearOf_43 ?_
      rw [nI_clamp (n := j) (by omega)]
      refine lv_i2l (v := (Bo j).toInt64) hx hb dX9_nearOf_44 (rfl) ?_
      refine lv_lmul hx hb dX9_nearOf_45 ?_
      refine lv_lsub hx hb dX9_nearOf_46 ?_
      refine lv_lstore (lv' := [(5, .long ((((To j).toInt64) * (lN (toB sh U V Te Si Ba Sm Gr k i))) - ((lN (toA sh U V Te Si Ba Sm Gr k i)) * ((Bo j).toInt64)))), (0, .ref m0), (1, .int (nI k)), (2, .int (nI i)), (3, .int (nI (nearN To Bo th (lN (toA sh U V Te Si Ba Sm Gr k i)) (lN (toB sh U V Te Si Ba Sm Gr k i)) j))), (4, .int (nI j))]) hx hb dX9_nearOf_47 hl (by decide) rfl (fun ls hl => ?_)
      refine lv_lload hx hb dX9_nearOf_49 (lv_at hl 0 rfl) ?_
      refine lv_lconst (v := 0) hx hb dX9_nearOf_51 (by decide) ?_
      refine W.lcmp hx hb dX9_nearOf_52 ?_
      refine lv_if_ge (tgt := 62) hx hb dX9_nearOf_53 (by decide) (fun c_53 => ?_) (fun c_53 => ?_)
      · have c_53 := lc_ge c_53
        refine lv_lload hx hb dX9_nearOf_62 (lv_at hl 0 rfl) ?_
        refine lv_lstore (lv' := [(5, .long ((((To j).toInt64) * (lN (toB sh U V Te Si Ba Sm Gr k i))) - ((lN (toA sh U V Te Si Ba Sm Gr k i)) * ((Bo j).toInt64)))), (0, .ref m0), (1, .int (nI k)), (2, .int (nI i)), (3, .int (nI (nearN To Bo th (lN (toA sh U V Te Si Ba Sm Gr k i)) (lN (toB sh U V Te Si Ba Sm Gr k i)) j))), (4, .int (nI j))]) hx hb dX9_nearOf_64 hl (by decide) rfl (fun ls hl => ?_)
        refine lv_iload_n hx hb dX9_nearOf_66 rfl (lv_at hl 4 rfl) ?_
        refine lv_ldc2 (v := 1000) hx hb hown (hts (.constantLong RX9 165 (1000)) (by decide +kernel)) dX9_nearOf_67 ?_
        refine lv_lload hx hb dX9_nearOf_70 (lv_at hl 0 rfl) ?_
        refine lv_lmul hx hb dX9_nearOf_72 ?_
        refine lv_aload_n hx hb dX9_nearOf_73 rfl (lv_at hl 1 rfl) ?_
        refine va_get (D := E.1) (ci := 9) (v := .int (nI th)) (C := RX9) (T := TX9) (N := 32) hx hb hts hinX9 hown hK hP 2 rfl rfl 25 (by decide) (hts (.fieldLink RX9 66 "WornRingsModel" "slip" "I") (by decide +kernel)) (fun _ h9 => h9) rfl dX9_nearOf_74 ?_
        refine lv_i2l (v := lN th) hx hb dX9_nearOf_77 (nI_l (by omega)) ?_
        refine lv_aload_n hx hb dX9_nearOf_78 rfl (lv_at hl 1 rfl) ?_
        refine va_get (D := E.1) (ci := 9) (v := .long (lN (toA sh U V Te Si Ba Sm Gr k i))) (C := RX9) (T := TX9) (N := 32) hx hb hts hinX9 hown hK hP 2 rfl rfl 9 (by decide) (hts (.fieldLink RX9 89 "WornRingsModel" "above" "J") (by decide +kernel)) (fun _ h9 => h9) rfl dX9_nearOf_79 ?_
        refine lv_lmul hx hb dX9_nearOf_82 ?_
        refine lv_aload_n hx hb dX9_nearOf_83 rfl (lv_at hl 1 rfl) ?_
        refine va_get (D := E.1) (ci := 9) (v := .ref rW) (C := RX9) (T := TX9) (N := 32) hx hb hts hinX9 hown hK hP 2 rfl rfl 24 (by decide) (hts (.fieldLink RX9 63 "WornRingsModel" "bottoms" "[I") (by decide +kernel)) (fun _ h9 => h9) rfl dX9_nearOf_84 ?_
        refine lv_iload hx hb dX9_nearOf_87 (lv_at hl 5 rfl) ?_
        refine va_iald hx hb hK hP 1 1 rfl rfl (vp_in_nI (by omega) (by omega)) dX9_nearOf_89 ?_
        rw [nI_clamp (n := j) (by omega)]
        refine lv_i2l (v := (Bo j).toInt64) hx hb dX9_nearOf_90 (rfl) ?_
        refine lv_lmul hx hb dX9_nearOf_91 ?_
        refine W.lcmp hx hb dX9_nearOf_92 ?_
        refine lv_if_gt (tgt := 103) hx hb dX9_nearOf_93 (by decide) (fun c_93 => ?_) (fun c_93 => ?_)
        · have c_93 := lc_gt c_93
          refine lv_iconst (v := 0) hx hb dX9_nearOf_103 (by decide) ?_
          refine lv_ior hx hb dX9_nearOf_104 ?_
          rw [show ((nI (nearN To Bo th (lN (toA sh U V Te Si Ba Sm Gr k i)) (lN (toB sh U V Te Si Ba Sm Gr k i)) j)) ||| 0 : Int32) = nI (nearN To Bo th (lN (toA sh U V Te Si Ba Sm Gr k i)) (lN (toB sh U V Te Si Ba Sm Gr k i)) j) from Int32.or_zero]
          refine lv_istore_n (lv' := [(3, .int (nI (nearN To Bo th (lN (toA sh U V Te Si Ba Sm Gr k i)) (lN (toB sh U V Te Si Ba Sm Gr k i)) j))), (5, .long ((((To j).toInt64) * (lN (toB sh U V Te Si Ba Sm Gr k i))) - ((lN (toA sh U V Te Si Ba Sm Gr k i)) * ((Bo j).toInt64)))), (0, .ref m0), (1, .int (nI k)), (2, .int (nI i)), (4, .int (nI j))]) hx hb dX9_nearOf_105 rfl hl (by decide) rfl (fun ls hl => ?_)
          refine lv_iinc (v := nI (j + 1)) (lv' := [(4, .int (nI (j + 1))), (3, .int (nI (nearN To Bo th (lN (toA sh U V Te Si Ba Sm Gr k i)) (lN (toB sh U V Te Si Ba Sm Gr k i)) j))), (5, .long ((((To j).toInt64) * (lN (toB sh U V Te Si Ba Sm Gr k i))) - ((lN (toA sh U V Te Si Ba Sm Gr k i)) * ((Bo j).toInt64)))), (0, .ref m0), (1, .int (nI k)), (2, .int (nI i))]) hx hb dX9_nearOf_106 hl (k := 5) rfl (nI_add j 1) (by decide) rfl (fun ls hl => ?_)
          refine lv_goto (tgt := 11) hx hb dX9_nearOf_109 (by decide) ?_
          have e9_0 : nearN To Bo th (lN (toA sh U V Te Si Ba Sm Gr k i)) (lN (toB sh U V Te Si Ba Sm Gr k i)) (j + 1) = nearN To Bo th (lN (toA sh U V Te Si Ba Sm Gr k i)) (lN (toB sh U V Te Si Ba Sm Gr k i)) j := by first | exact nearN_f (nm_f (absL_ge c_53) c_93) | exact nearN_f (nm_f (absL_lt c_53) c_93) | exact nearN_t (nm_t (absL_ge c_53) c_93) | exact nearN_t (nm_t (absL_lt c_53) c_93)
          exact ih11 (j + 1) _ (by omega) (by omega) (by rw [e9_0]; exact lv_sub hl [3, 4, 5, 1, 0] rfl)
        · have c_93 := lc_gt_n c_93
          refine lv_iconst (v := 1) hx hb dX9_nearOf_96 (by decide) ?_
          refine lv_iload hx hb dX9_nearOf_97 (lv_at hl 5 rfl) ?_
          refine lv_ishl hx hb dX9_nearOf_99 ?_
          refine lv_goto (tgt := 104) hx hb dX9_nearOf_100 (by decide) ?_
          rw [show (1 <<< ((nI j) &&& 31) : Int32) = nI (2 ^ j) from shl1 j (by omega)]
          refine lv_ior hx hb dX9_nearOf_104 ?_
          rw [show ((nI (nearN To Bo th (lN (toA sh U V Te Si Ba Sm Gr k i)) (lN (toB sh U V Te Si Ba Sm Gr k i)) j)) ||| (nI (2 ^ j)) : Int32) = nI (nearN To Bo th (lN (toA sh U V Te Si Ba Sm Gr k i)) (lN (toB sh U V Te Si Ba Sm Gr k i)) j + 2 ^ j) from or_bit hb9]
          refine lv_istore_n (lv' := [(3, .int (nI (nearN To Bo th (lN (toA sh U V Te Si Ba Sm Gr k i)) (lN (toB sh U V Te Si Ba Sm Gr k i)) j + 2 ^ j))), (5, .long ((((To j).toInt64) * (lN (toB sh U V Te Si Ba Sm Gr k i))) - ((lN (toA sh U V Te Si Ba Sm Gr k i)) * ((Bo j).toInt64)))), (0, .ref m0), (1, .int (nI k)), (2, .int (nI i)), (4, .int (nI j))]) hx hb dX9_nearOf_105 rfl hl (by decide) rfl (fun ls hl => ?_)
          refine lv_iinc (v := nI (j + 1)) (lv' := [(4, .int (nI (j + 1))), (3, .int (nI (nearN To Bo th (lN (toA sh U V Te Si Ba Sm Gr k i)) (lN (toB sh U V Te Si Ba Sm Gr k i)) j + 2 ^ j))), (5, .long ((((To j).toInt64) * (lN (toB sh U V Te Si Ba Sm Gr k i))) - ((lN (toA sh U V Te Si Ba Sm Gr k i)) * ((Bo j).toInt64)))), (0, .ref m0), (1, .int (nI k)), (2, .int (nI i))]) hx hb dX9_nearOf_106 hl (k := 5) rfl (nI_add j 1) (by decide) rfl (fun ls hl => ?_)
          refine lv_goto (tgt := 11) hx hb dX9_nearOf_109 (by decide) ?_
          have e9_0 : nearN To Bo th (lN (toA sh U V Te Si Ba Sm Gr k i)) (lN (toB sh U V Te Si Ba Sm Gr k i)) (j + 1) = nearN To Bo th (lN (toA sh U V Te Si Ba Sm Gr k i)) (lN (toB sh U V Te Si Ba Sm Gr k i)) j + 2 ^ j := by first | exact nearN_f (nm_f (absL_ge c_53) c_93) | exact nearN_f (nm_f (absL_lt c_53) c_93) | exact nearN_t (nm_t (absL_ge c_53) c_93) | exact nearN_t (nm_t (absL_lt c_53) c_93)
          exact ih11 (j + 1) _ (by omega) (by omega) (by rw [e9_0]; exact lv_sub hl [3, 4, 5, 1, 0] rfl)
      · have c_53 := lc_ge_n c_53
        refine lv_lload hx hb dX9_nearOf_56 (lv_at hl 0 rfl) ?_
        refine lv_lneg hx hb dX9_nearOf_58 ?_
        refine lv_goto (tgt := 64) hx hb dX9_nearOf_59 (by decide) ?_
        refine lv_lstore (lv' := [(5, .long (-((((To j).toInt64) * (lN (toB sh U V Te Si Ba Sm Gr k i))) - ((lN (toA sh U V Te Si Ba Sm Gr k i)) * ((Bo j).toInt64))))), (0, .ref m0), (1, .int (nI k)), (2, .int (nI i)), (3, .int (nI (nearN To Bo th (lN (toA sh U V Te Si Ba Sm Gr k i)) (lN (toB sh U V Te Si Ba Sm Gr k i)) j))), (4, .int (nI j))]) hx hb dX9_nearOf_64 hl (by decide) rfl (fun ls hl => ?_)
        refine lv_iload_n hx hb dX9_nearOf_66 rfl (lv_at hl 4 rfl) ?_
        refine lv_ldc2 (v := 1000) hx hb hown (hts (.constantLong RX9 165 (1000)) (by decide +kernel)) dX9_nearOf_67 ?_
        refine lv_lload hx hb dX9_nearOf_70 (lv_at hl 0 rfl) ?_
        refine lv_lmul hx hb dX9_nearOf_72 ?_
        refine lv_aload_n hx hb dX9_nearOf_73 rfl (lv_at hl 1 rfl) ?_
        refine va_get (D := E.1) (ci := 9) (v := .int (nI th)) (C := RX9) (T := TX9) (N := 32) hx hb hts hinX9 hown hK hP 2 rfl rfl 25 (by decide) (hts (.fieldLink RX9 66 "WornRingsModel" "slip" "I") (by decide +kernel)) (fun _ h9 => h9) rfl dX9_nearOf_74 ?_
        refine lv_i2l (v := lN th) hx hb dX9_nearOf_77 (nI_l (by omega)) ?_
        refine lv_aload_n hx hb dX9_nearOf_78 rfl (lv_at hl 1 rfl) ?_
        refine va_get (D := E.1) (ci := 9) (v := .long (lN (toA sh U V Te Si Ba Sm Gr k i))) (C := RX9) (T := TX9) (N := 32) hx hb hts hinX9 hown hK hP 2 rfl rfl 9 (by decide) (hts (.fieldLink RX9 89 "WornRingsModel" "above" "J") (by decide +kernel)) (fun _ h9 => h9) rfl dX9_nearOf_79 ?_
        refine lv_lmul hx hb dX9_nearOf_82 ?_
        refine lv_aload_n hx hb dX9_nearOf_83 rfl (lv_at hl 1 rfl) ?_
        refine va_get (D := E.1) (ci := 9) (v := .ref rW) (C := RX9) (T := TX9) (N := 32) hx hb hts hinX9 hown hK hP 2 rfl rfl 24 (by decide) (hts (.fieldLink RX9 63 "WornRingsModel" "bottoms" "[I") (by decide +kernel)) (fun _ h9 => h9) rfl dX9_nearOf_84 ?_
        refine lv_iload hx hb dX9_nearOf_87 (lv_at hl 5 rfl) ?_
        refine va_iald hx hb hK hP 1 1 rfl rfl (vp_in_nI (by omega) (by omega)) dX9_nearOf_89 ?_
        rw [nI_clamp (n := j) (by omega)]
        refine lv_i2l (v := (Bo j).toInt64) hx hb dX9_nearOf_90 (rfl) ?_
        refine lv_lmul hx hb dX9_nearOf_91 ?_
        refine W.lcmp hx hb dX9_nearOf_92 ?_
        refine lv_if_gt (tgt := 103) hx hb dX9_nearOf_93 (by decide) (fun c_93 => ?_) (fun c_93 => ?_)
        · have c_93 := lc_gt c_93
          refine lv_iconst (v := 0) hx hb dX9_nearOf_103 (by decide) ?_
          refine lv_ior hx hb dX9_nearOf_104 ?_
          rw [show ((nI (nearN To Bo th (lN (toA sh U V Te Si Ba Sm Gr k i)) (lN (toB sh U V Te Si Ba Sm Gr k i)) j)) ||| 0 : Int32) = nI (nearN To Bo th (lN (toA sh U V Te Si Ba Sm Gr k i)) (lN (toB sh U V Te Si Ba Sm Gr k i)) j) from Int32.or_zero]
          refine lv_istore_n (lv' := [(3, .int (nI (nearN To Bo th (lN (toA sh U V Te Si Ba Sm Gr k i)) (lN (toB sh U V Te Si Ba Sm Gr k i)) j))), (5, .long (-((((To j).toInt64) * (lN (toB sh U V Te Si Ba Sm Gr k i))) - ((lN (toA sh U V Te Si Ba Sm Gr k i)) * ((Bo j).toInt64))))), (0, .ref m0), (1, .int (nI k)), (2, .int (nI i)), (4, .int (nI j))]) hx hb dX9_nearOf_105 rfl hl (by decide) rfl (fun ls hl => ?_)
          refine lv_iinc (v := nI (j + 1)) (lv' := [(4, .int (nI (j + 1))), (3, .int (nI (nearN To Bo th (lN (toA sh U V Te Si Ba Sm Gr k i)) (lN (toB sh U V Te Si Ba Sm Gr k i)) j))), (5, .long (-((((To j).toInt64) * (lN (toB sh U V Te Si Ba Sm Gr k i))) - ((lN (toA sh U V Te Si Ba Sm Gr k i)) * ((Bo j).toInt64))))), (0, .ref m0), (1, .int (nI k)), (2, .int (nI i))]) hx hb dX9_nearOf_106 hl (k := 5) rfl (nI_add j 1) (by decide) rfl (fun ls hl => ?_)
          refine lv_goto (tgt := 11) hx hb dX9_nearOf_109 (by decide) ?_
          have e9_0 : nearN To Bo th (lN (toA sh U V Te Si Ba Sm Gr k i)) (lN (toB sh U V Te Si Ba Sm Gr k i)) (j + 1) = nearN To Bo th (lN (toA sh U V Te Si Ba Sm Gr k i)) (lN (toB sh U V Te Si Ba Sm Gr k i)) j := by first | exact nearN_f (nm_f (absL_ge c_53) c_93) | exact nearN_f (nm_f (absL_lt c_53) c_93) | exact nearN_t (nm_t (absL_ge c_53) c_93) | exact nearN_t (nm_t (absL_lt c_53) c_93)
          exact ih11 (j + 1) _ (by omega) (by omega) (by rw [e9_0]; exact lv_sub hl [3, 4, 5, 1, 0] rfl)
        · have c_93 := lc_gt_n c_93
          refine lv_iconst (v := 1) hx hb dX9_nearOf_96 (by decide) ?_
          refine lv_iload hx hb dX9_nearOf_97 (lv_at hl 5 rfl) ?_
          refine lv_ishl hx hb dX9_nearOf_99 ?_
          refine lv_goto (tgt := 104) hx hb dX9_nearOf_100 (by decide) ?_
          rw [show (1 <<< ((nI j) &&& 31) : Int32) = nI (2 ^ j) from shl1 j (by omega)]
          refine lv_ior hx hb dX9_nearOf_104 ?_
          rw [show ((nI (nearN To Bo th (lN (toA sh U V Te Si Ba Sm Gr k i)) (lN (toB sh U V Te Si Ba Sm Gr k i)) j)) ||| (nI (2 ^ j)) : Int32) = nI (nearN To Bo th (lN (toA sh U V Te Si Ba Sm Gr k i)) (lN (toB sh U V Te Si Ba Sm Gr k i)) j + 2 ^ j) from or_bit hb9]
          refine lv_istore_n (lv' := [(3, .int (nI (nearN To Bo th (lN (toA sh U V Te Si Ba Sm Gr k i)) (lN (toB sh U V Te Si Ba Sm Gr k i)) j + 2 ^ j))), (5, .long (-((((To j).toInt64) * (lN (toB sh U V Te Si Ba Sm Gr k i))) - ((lN (toA sh U V Te Si Ba Sm Gr k i)) * ((Bo j).toInt64))))), (0, .ref m0), (1, .int (nI k)), (2, .int (nI i)), (4, .int (nI j))]) hx hb dX9_nearOf_105 rfl hl (by decide) rfl (fun ls hl => ?_)
          refine lv_iinc (v := nI (j + 1)) (lv' := [(4, .int (nI (j + 1))), (3, .int (nI (nearN To Bo th (lN (toA sh U V Te Si Ba Sm Gr k i)) (lN (toB sh U V Te Si Ba Sm Gr k i)) j + 2 ^ j))), (5, .long (-((((To j).toInt64) * (lN (toB sh U V Te Si Ba Sm Gr k i))) - ((lN (toA sh U V Te Si Ba Sm Gr k i)) * ((Bo j).toInt64))))), (0, .ref m0), (1, .int (nI k)), (2, .int (nI i))]) hx hb dX9_nearOf_106 hl (k := 5) rfl (nI_add j 1) (by decide) rfl (fun ls hl => ?_)
          refine lv_goto (tgt := 11) hx hb dX9_nearOf_109 (by decide) ?_
          have e9_0 : nearN To Bo th (lN (toA sh U V Te Si Ba Sm Gr k i)) (lN (toB sh U V Te Si Ba Sm Gr k i)) (j + 1) = nearN To Bo th (lN (toA sh U V Te Si Ba Sm Gr k i)) (lN (toB sh U V Te Si Ba Sm Gr k i)) j + 2 ^ j := by first | exact nearN_f (nm_f (absL_ge c_53) c_93) | exact nearN_f (nm_f (absL_lt c_53) c_93) | exact nearN_t (nm_t (absL_ge c_53) c_93) | exact nearN_t (nm_t (absL_lt c_53) c_93)
          exact ih11 (j + 1) _ (by omega) (by omega) (by rw [e9_0]; exact lv_sub hl [3, 4, 5, 1, 0] rfl)
set_option maxHeartbeats 1000000 in
set_option maxRecDepth 100000 in
theorem c_X9_explained (l : Launch) (E : EnvT) (sz : Nat) (m0 : Nat) (sh : Nat) (rO : Nat) (rU : Nat) (rT : Nat) (rg : Nat) (rS : Nat) (rB : Nat) (rP : Nat) (rG : Nat) (ab0 : Int64) (be0 : Int64) (mk : Int32) (rM : Nat) (md : Int32) (rN : Nat) (rL : Nat) (rZ : Nat) (rE : Nat) (rI : Nat) (hc : Int32) (rA : Nat) (rX : Nat) (n : Nat) (rV : Nat) (rW : Nat) (th : Nat) (rC : Nat) (rF : Nat) (rQ : Nat) (rK : Nat) (rR : Nat) (rD : Nat) (U : Nat → Nat) (V : Nat → Nat) (Te : Nat → Nat) (Si : Nat → Nat) (Ba : Nat → Nat) (Sm : Nat → Nat) (Gr : Nat → Nat) (To : Nat → Int32) (Bo : Nat → Int32) (k : Nat) (hM : ModM sh rg U V Te Si Ba Sm Gr) (hk : k < 2 * sh - 1 + 4 * rg) (hn : n ≤ 12) (hth : th ≤ 100) : Met l yX9_explained wsX9_explained ({ frames := 4, cells := 0, slots := 0, locals := 101 }) (va_Pc [.ref m0, .int (nI k)] (PW E [(m0, .inr (9, [.int (nI sh), .ref rO, .ref rU, .ref rT, .int (nI rg), .ref rS, .ref rB, .ref rP, .ref rG, .long ab0, .long be0, .int mk, .ref rM, .int md, .ref rN, .ref rL, .ref rZ, .ref rE, .ref rI, .int hc, .ref rA, .ref rX, .int (nI n), .ref rV, .ref rW, .int (nI th), .ref rC, .ref rF, .ref rQ, .ref rK, .ref rR, .ref rD])), (rO, .inl (E.2 2, 4, .inr (.inl (lA U)))), (rU, .inl (E.2 2, 4, .inr (.inl (lA V)))), (rT, .inl (E.2 1, 4, .inl (nA Te))), (rS, .inl (E.2 1, 8, .inl (nA Si))), (rB, .inl (E.2 1, 8, .inl (nA Ba))), (rP, .inl (E.2 1, 8, .inl (nA Sm))), (rG, .inl (E.2 1, 8, .inl (nA Gr))), (rV, .inl (E.2 1, 12, .inl To)), (rW, .inl (E.2 1, 12, .inl Bo))] sz)) (va_Qi (fun (r : Int32) (uu : Int64 × Int64) => r = nI (expN To Bo th n (lA (toA sh U V Te Si Ba Sm Gr k)) (lA (toB sh U V Te Si Ba Sm Gr k)) (tnN sh k))) (fun (uu : Int64 × Int64) t => BW E (va_A [(m0, .inr (9, [.int (nI sh), .ref rO, .ref rU, .ref rT, .int (nI rg), .ref rS, .ref rB, .ref rP, .ref rG, .long ab0, .long be0, .int mk, .ref rM, .int md, .ref rN, .ref rL, .ref rZ, .ref rE, .ref rI, .int hc, .ref rA, .ref rX, .int (nI n), .ref rV, .ref rW, .int (nI th), .ref rC, .ref rF, .ref rQ, .ref rK, .ref rR, .ref rD])), (rO, .inl (E.2 2, 4, .inr (.inl (lA U)))), (rU, .inl (E.2 2, 4, .inr (.inl (lA V)))), (rT, .inl (E.2 1, 4, .inl (nA Te))), (rS, .inl (E.2 1, 8, .inl (nA Si))), (rB, .inl (E.2 1, 8, .inl (nA Ba))), (rP, .inl (E.2 1, 8, .inl (nA Sm))), (rG, .inl (E.2 1, 8, .inl (nA Gr))), (rV, .inl (E.2 1, 12, .inl To)), (rW, .inl (E.2 1, 12, .inl Bo))] sz) [(m0, .inr (9, [.int (nI sh), .ref rO, .ref rU, .ref rT, .int (nI rg), .ref rS, .ref rB, .ref rP, .ref rG, .long uu.1, .long uu.2, .int mk, .ref rM, .int md, .ref rN, .ref rL, .ref rZ, .ref rE, .ref rI, .int hc, .ref rA, .ref rX, .int (nI n), .ref rV, .ref rW, .int (nI th), .ref rC, .ref rF, .ref rQ, .ref rK, .ref rR, .ref rD])), (rO, .inl (E.2 2, 4, .inr (.inl (lA U)))), (rU, .inl (E.2 2, 4, .inr (.inl (lA V)))), (rT, .inl (E.2 1, 4, .inl (nA Te))), (rS, .inl (E.2 1, 8, .inl (nA Si))), (rB, .inl (E.2 1, 8, .inl (nA Ba))), (rP, .inl (E.2 1, 8, .inl (nA Sm))), (rG, .inl (E.2 1, 8, .inl (nA Gr))), (rV, .inl (E.2 1, 12, .inl To)), (rW, .inl (E.2 1, 12, .inl Bo))] t) (va_A [(m0, .inr (9, [.int (nI sh), .ref rO, .ref rU, .ref rT, .int (nI rg), .ref rS, .ref rB, .ref rP, .ref rG, .long ab0, .long be0, .int mk, .ref rM, .int md, .ref rN, .ref rL, .ref rZ, .ref rE, .ref rI, .int hc, .ref rA, .ref rX, .int (nI n), .ref rV, .ref rW, .int (nI th), .ref rC, .ref rF, .ref rQ, .ref rK, .ref rR, .ref rD])), (rO, .inl (E.2 2, 4, .inr (.inl (lA U)))), (rU, .inl (E.2 2, 4, .inr (.inl (lA V)))), (rT, .inl (E.2 1, 4, .inl (nA Te))), (rS, .inl (E.2 1, 8, .inl (nA Si))), (rB, .inl (E.2 1, 8, .inl (nA Ba))), (rP, .inl (E.2 1, 8, .inl (nA Sm))), (rG, .inl (E.2 1, 8, .inl (nA Gr))), (rV, .inl (E.2 1, 12, .inl To)), (rW, .inl (E.2 1, 12, .inl Bo))] sz)) 0 0 (va_A [(m0, .inr (9, [.int (nI sh), .ref rO, .ref rU, .ref rT, .int (nI rg), .ref rS, .ref rB, .ref rP, .ref rG, .long ab0, .long be0, .int mk, .ref rM, .int md, .ref rN, .ref rL, .ref rZ, .ref rE, .ref rI, .int hc, .ref rA, .ref rX, .int (nI n), .ref rV, .ref rW, .int (nI th), .ref rC, .ref rF, .ref rQ, .ref rK, .ref rR, .ref rD])), (rO, .inl (E.2 2, 4, .inr (.inl (lA U)))), (rU, .inl (E.2 2, 4, .inr (.inl (lA V)))), (rT, .inl (E.2 1, 4, .inl (nA Te))), (rS, .inl (E.2 1, 8, .inl (nA Si))), (rB, .inl (E.2 1, 8, .inl (nA Ba))), (rP, .inl (E.2 1, 8, .inl (nA Sm))), (rG, .inl (E.2 1, 8, .inl (nA Gr))), (rV, .inl (E.2 1, 12, .inl To)), (rW, .inl (E.2 1, 12, .inl Bo))] sz) := by
  refine Met.ofW (cc := cX9_explained) (maxL := 4) (ret := (some .int)) (by decide +kernel) rfl ?_
  intro p e s m args below meth c s₁ B hml hv
  obtain ⟨rfl, hsz, hP, hE, hD0⟩ := hv
  have hx := B.exec
  have hb := B.bytes
  have hr := B.returns
  have hts := atoms_spec (ws := wsX9_explained) B.pre
  have hown : s.vm.findClass RX9 = some m.cls := findClass_of_methodNamed B.named
  have hlocks := B.notSynchronized
  have hK := hE.1
  have hNN := hE.2.1
  subst hsz
  have hD := hD0.self (sz := s.heap.size)
  generalize hAe : va_A [(m0, .inr (9, [.int (nI sh), .ref rO, .ref rU, .ref rT, .int (nI rg), .ref rS, .ref rB, .ref rP, .ref rG, .long ab0, .long be0, .int mk, .ref rM, .int md, .ref rN, .ref rL, .ref rZ, .ref rE, .ref rI, .int hc, .ref rA, .ref rX, .int (nI n), .ref rV, .ref rW, .int (nI th), .ref rC, .ref rF, .ref rQ, .ref rK, .ref rR, .ref rD])), (rO, .inl (E.2 2, 4, .inr (.inl (lA U)))), (rU, .inl (E.2 2, 4, .inr (.inl (lA V)))), (rT, .inl (E.2 1, 4, .inl (nA Te))), (rS, .inl (E.2 1, 8, .inl (nA Si))), (rB, .inl (E.2 1, 8, .inl (nA Ba))), (rP, .inl (E.2 1, 8, .inl (nA Sm))), (rG, .inl (E.2 1, 8, .inl (nA Gr))), (rV, .inl (E.2 1, 12, .inl To)), (rW, .inl (E.2 1, 12, .inl Bo))] s.heap.size = A at hD ⊢
  have hA : ∀ q : Nat, s.heap.size ≤ q → A q := fun q h => by rw [← hAe]; exact Or.inr h
  have hS : va_S A s.heap s.heap [] := va_S.rf
  have hl := lv_entry ([.ref m0, .int (nI k)]) (n := 4) (Nat.le_of_ble_eq_true rfl)
  rw [lg_entry_eq]
  generalize (lg_sl ([.ref m0, .int (nI k)]) ++ List.replicate (4 - (lg_sl ([.ref m0, .int (nI k)])).length) Slot.unset).toArray = ls at hl ⊢
  have hl : lv_has ls 4 [(0, .ref m0), (1, .int (nI k))] := hl
  have htn := tnN_in sh k
  obtain ⟨⟨hs1, hs4, hr8⟩, -⟩ := id hM
  refine lv_iconst (v := 0) hx hb dX9_explained_0 (by decide) ?_
  refine lv_istore_n (lv' := [(2, .int 0), (0, .ref m0), (1, .int (nI k))]) hx hb dX9_explained_1 rfl hl (by decide) rfl (fun ls hl => ?_)
  refine lv_iconst (v := 0) hx hb dX9_explained_2 (by decide) ?_
  refine lv_istore_n (lv' := [(3, .int 0), (2, .int 0), (0, .ref m0), (1, .int (nI k))]) hx hb dX9_explained_3 rfl hl (by decide) rfl (fun ls hl => ?_)
  refine (fun (lp4 : ∀ (n9 : Nat) (i : Nat) (ab : Int64) (be : Int64) (H : Heap) (locs : List Loc) (ls : Array Slot), (tnN sh k - i) < n9 → (i ≤ tnN sh k) → va_P E.1 vwCl [(m0, .inr (9, [.int (nI sh), .ref rO, .ref rU, .ref rT, .int (nI rg), .ref rS, .ref rB, .ref rP, .ref rG, .long ab, .long be, .int mk, .ref rM, .int md, .ref rN, .ref rL, .ref rZ, .ref rE, .ref rI, .int hc, .ref rA, .ref rX, .int (nI n), .ref rV, .ref rW, .int (nI th), .ref rC, .ref rF, .ref rQ, .ref rK, .ref rR, .ref rD])), (rO, .inl (E.2 2, 4, .inr (.inl (lA U)))), (rU, .inl (E.2 2, 4, .inr (.inl (lA V)))), (rT, .inl (E.2 1, 4, .inl (nA Te))), (rS, .inl (E.2 1, 8, .inl (nA Si))), (rB, .inl (E.2 1, 8, .inl (nA Ba))), (rP, .inl (E.2 1, 8, .inl (nA Sm))), (rG, .inl (E.2 1, 8, .inl (nA Gr))), (rV, .inl (E.2 1, 12, .inl To)), (rW, .inl (E.2 1, 12, .inl Bo))] H → va_D A [(m0, .inr (9, [.int (nI sh), .ref rO, .ref rU, .ref rT, .int (nI rg), .ref rS, .ref rB, .ref rP, .ref rG, .long ab, .long be, .int mk, .ref rM, .int md, .ref rN, .ref rL, .ref rZ, .ref rE, .ref rI, .int hc, .ref rA, .ref rX, .int (nI n), .ref rV, .ref rW, .int (nI th), .ref rC, .ref rF, .ref rQ, .ref rK, .ref rR, .ref rD])), (rO, .inl (E.2 2, 4, .inr (.inl (lA U)))), (rU, .inl (E.2 2, 4, .inr (.inl (lA V)))), (rT, .inl (E.2 1, 4, .inl (nA Te))), (rS, .inl (E.2 1, 8, .inl (nA Si))), (rB, .inl (E.2 1, 8, .inl (nA Ba))), (rP, .inl (E.2 1, 8, .inl (nA Sm))), (rG, .inl (E.2 1, 8, .inl (nA Gr))), (rV, .inl (E.2 1, 12, .inl To)), (rW, .inl (E.2 1, 12, .inl Bo))] → va_S A s.heap H locs → lv_has ls 4 [(0, .ref m0), (1, .int (nI k)), (2, .int (nI (expN To Bo th n (lA (toA sh U V Te Si Ba Sm Gr k)) (lA (toB sh U V Te Si Ba Sm Gr k)) i))), (3, .int (nI i))] → W p l e _ s m _ below meth c H locs _ _ _ (F0 m 4 ls [])) => lp4 (tnN sh k + 1) 0 ab0 be0 _ _ _ (by omega) (by omega) (hP.sub [0, 1, 2, 3, 4, 5, 6, 7, 8, 9] rfl) (hD.sub [0, 1, 2, 3, 4, 5, 6, 7, 8, 9] (by decide) rfl) hS (lv_sub hl [2, 3, 1, 0] rfl)) ?_
  intro n4
  induction n4 with
  | zero => intro i ab be H locs ls h0; exact absurd (by assumption) (Nat.not_lt_zero _)
  | succ n4 ih4 =>
    intro i ab be H locs ls hmu4 hi hP hD hS hl
    refine lv_iload_n hx hb dX9_explained_4 rfl (lv_at hl 3 rfl) ?_
    refine lv_aload_n hx hb dX9_explained_5 rfl (lv_at hl 0 rfl) ?_
    refine lv_iload_n hx hb dX9_explained_6 rfl (lv_at hl 1 rfl) ?_
    refine rVi hE ⟨hx, hb, hml, hown, hts⟩ (c_X9_tonesOf l E m0 sh rO rU rT rg rS rB rP rG ab be mk rM md rN rL rZ rE rI hc rA rX (nI n) rV rW (nI th) rC rF rQ rK rR rD k (hs1) (hs4) (hr8) (hk)) (cwV 1 hts gX9_explained_X9_tonesOf rfl rfl rfl (by decide +kernel) ⟨Nat.le_of_ble_eq_true rfl, Nat.le_of_ble_eq_true rfl⟩) (hP.sub [0] rfl) 0 9 rfl rfl rfl hl.1 rfl (Nat.le_of_ble_eq_true rfl) dX9_explained_7 ⟨(Nat.zero_le _), (Nat.zero_le _)⟩ ?_
    refine lv_icmp_ge (tgt := 28) hx hb dX9_explained_10 (by decide) (fun c_10 => ?_) (fun c_10 => ?_)
    · have c_10 : (tnN sh k) ≤ i := (nI_leI (a := tnN sh k) (b := i) (by omega) (by omega)).mp c_10
      refine lv_iload_n hx hb dX9_explained_28 rfl (lv_at hl 2 rfl) ?_
      have hP9 : va_P E.1 vwCl [(m0, .inr (9, [.int (nI sh), .ref rO, .ref rU, .ref rT, .int (nI rg), .ref rS, .ref rB, .ref rP, .ref rG, .long ab, .long be, .int mk, .ref rM, .int md, .ref rN, .ref rL, .ref rZ, .ref rE, .ref rI, .int hc, .ref rA, .ref rX, .int (nI n), .ref rV, .ref rW, .int (nI th), .ref rC, .ref rF, .ref rQ, .ref rK, .ref rR, .ref rD])), (rO, .inl (E.2 2, 4, .inr (.inl (lA U)))), (rU, .inl (E.2 2, 4, .inr (.inl (lA V)))), (rT, .inl (E.2 1, 4, .inl (nA Te))), (rS, .inl (E.2 1, 8, .inl (nA Si))), (rB, .inl (E.2 1, 8, .inl (nA Ba))), (rP, .inl (E.2 1, 8, .inl (nA Sm))), (rG, .inl (E.2 1, 8, .inl (nA Gr))), (rV, .inl (E.2 1, 12, .inl To)), (rW, .inl (E.2 1, 12, .inl Bo))] H := hP.sub [0, 1, 2, 3, 4, 5, 6, 7, 8, 9] rfl
      have hD9 : va_D A [(m0, .inr (9, [.int (nI sh), .ref rO, .ref rU, .ref rT, .int (nI rg), .ref rS, .ref rB, .ref rP, .ref rG, .long ab, .long be, .int mk, .ref rM, .int md, .ref rN, .ref rL, .ref rZ, .ref rE, .ref rI, .int hc, .ref rA, .ref rX, .int (nI n), .ref rV, .ref rW, .int (nI th), .ref rC, .ref rF, .ref rQ, .ref rK, .ref rR, .ref rD])), (rO, .inl (E.2 2, 4, .inr (.inl (lA U)))), (rU, .inl (E.2 2, 4, .inr (.inl (lA V)))), (rT, .inl (E.2 1, 4, .inl (nA Te))), (rS, .inl (E.2 1, 8, .inl (nA Si))), (rB, .inl (E.2 1, 8, .inl (nA Ba))), (rP, .inl (E.2 1, 8, .inl (nA Sm))), (rG, .inl (E.2 1, 8, .inl (nA Gr))), (rV, .inl (E.2 1, 12, .inl To)), (rW, .inl (E.2 1, 12, .inl Bo))] := hD.sub [0, 1, 2, 3, 4, 5, 6, 7, 8, 9] (by decide) rfl
      exact W.iret (v := nI (expN To Bo th n (lA (toA sh U V Te Si Ba Sm Gr k)) (lA (toB sh U V Te Si Ba Sm Gr k)) i)) hx hb hr (fun t9 ht9 hW9 => ⟨⟨nI (expN To Bo th n (lA (toA sh U V Te Si Ba Sm Gr k)) (lA (toB sh U V Te Si Ba Sm Gr k)) i), (ab, be), rfl, by rw [show i = tnN sh k by omega], ⟨by rw [ht9]; exact hP9, hD9⟩⟩, hS.F ht9⟩) hS.2.2 dX9_explained_29
    · have c_10 : ¬ (tnN sh k) ≤ i := fun h9 => c_10 ((nI_leI (a := tnN sh k) (b := i) (by omega) (by omega)).mpr h9)
      refine lv_iload_n hx hb dX9_explained_13 rfl (lv_at hl 2 rfl) ?_
      refine lv_aload_n hx hb dX9_explained_14 rfl (lv_at hl 0 rfl) ?_
      refine lv_iload_n hx hb dX9_explained_15 rfl (lv_at hl 1 rfl) ?_
      refine lv_iload_n hx hb dX9_explained_16 rfl (lv_at hl 3 rfl) ?_
      refine wVi (wr := []) hE ⟨hx, hb, hml, hown, hts⟩ (c_X9_nearOf l E H.size m0 sh rO rU rT rg rS rB rP rG ab be mk rM md rN rL rZ rE rI hc rA rX n rV rW th rC rF rQ rK rR rD U V Te Si Ba Sm Gr To Bo k i (hM) (hk) (by omega) (hn) (hth)) (cwV 2 hts gX9_explained_X9_nearOf rfl rfl rfl (by decide +kernel) ⟨Nat.le_of_ble_eq_true rfl, Nat.le_of_ble_eq_true rfl⟩) hP hD hS hA [0, 1, 2, 3, 4, 5, 6, 7, 8, 9] [] rfl rfl (by decide) (by decide) (by decide) 0 9 rfl rfl rfl hl.1 rfl (Nat.le_of_ble_eq_true rfl) dX9_explained_17 ⟨(Nat.zero_le _), (Nat.zero_le _)⟩ (fun r_17 u H locs hw hP hD hS => ?_)
      have hP : va_P E.1 vwCl [(m0, .inr (9, [.int (nI sh), .ref rO, .ref rU, .ref rT, .int (nI rg), .ref rS, .ref rB, .ref rP, .ref rG, .long (lN (toA sh U V Te Si Ba Sm Gr k i)), .long (lN (toB sh U V Te Si Ba Sm Gr k i)), .int mk, .ref rM, .int md, .ref rN, .ref rL, .ref rZ, .ref rE, .ref rI, .int hc, .ref rA, .ref rX, .int (nI n), .ref rV, .ref rW, .int (nI th), .ref rC, .ref rF, .ref rQ, .ref rK, .ref rR, .ref rD])), (rO, .inl (E.2 2, 4, .inr (.inl (lA U)))), (rU, .inl (E.2 2, 4, .inr (.inl (lA V)))), (rT, .inl (E.2 1, 4, .inl (nA Te))), (rS, .inl (E.2 1, 8, .inl (nA Si))), (rB, .inl (E.2 1, 8, .inl (nA Ba))), (rP, .inl (E.2 1, 8, .inl (nA Sm))), (rG, .inl (E.2 1, 8, .inl (nA Gr))), (rV, .inl (E.2 1, 12, .inl To)), (rW, .inl (E.2 1, 12, .inl Bo))] H := hP
      have hD : va_D A [(m0, .inr (9, [.int (nI sh), .ref rO, .ref rU, .ref rT, .int (nI rg), .ref rS, .ref rB, .ref rP, .ref rG, .long (lN (toA sh U V Te Si Ba Sm Gr k i)), .long (lN (toB sh U V Te Si Ba Sm Gr k i)), .int mk, .ref rM, .int md, .ref rN, .ref rL, .ref rZ, .ref rE, .ref rI, .int hc, .ref rA, .ref rX, .int (nI n), .ref rV, .ref rW, .int (nI th), .ref rC, .ref rF, .ref rQ, .ref rK, .ref rR, .ref rD])), (rO, .inl (E.2 2, 4, .inr (.inl (lA U)))), (rU, .inl (E.2 2, 4, .inr (.inl (lA V)))), (rT, .inl (E.2 1, 4, .inl (nA Te))), (rS, .inl (E.2 1, 8, .inl (nA Si))), (rB, .inl (E.2 1, 8, .inl (nA Ba))), (rP, .inl (E.2 1, 8, .inl (nA Sm))), (rG, .inl (E.2 1, 8, .inl (nA Gr))), (rV, .inl (E.2 1, 12, .inl To)), (rW, .inl (E.2 1, 12, .inl Bo))] := hD
      rw [hw]
      refine lv_ior hx hb dX9_explained_20 ?_
      rw [show ((nI (expN To Bo th n (lA (toA sh U V Te Si Ba Sm Gr k)) (lA (toB sh U V Te Si Ba Sm Gr k)) i)) ||| (nI (nearN To Bo th (lN (toA sh U V Te Si Ba Sm Gr k i)) (lN (toB sh U V Te Si Ba Sm Gr k i)) n)) : Int32) = nI (expN To Bo th n (lA (toA sh U V Te Si Ba Sm Gr k)) (lA (toB sh U V Te Si Ba Sm Gr k)) (i + 1)) from xx_or _ _]
      refine lv_istore_n (lv' := [(2, .int (nI (expN To Bo th n (lA (toA sh U V Te Si Ba Sm Gr k)) (lA (toB sh U V Te Si Ba Sm Gr k)) (i + 1)))), (0, .ref m0), (1, .int (nI k)), (3, .int (nI i))]) hx hb dX9_explained_21 rfl hl (by decide) rfl (fun ls hl => ?_)
      refine lv_iinc (v := nI (i + 1)) (lv' := [(3, .int (nI (i + 1))), (2, .int (nI (expN To Bo th n (lA (toA sh U V Te Si Ba Sm Gr k)) (lA (toB sh U V Te Si Ba Sm Gr k)) (i + 1)))), (0, .ref m0), (1, .int (nI k))]) hx hb dX9_explained_22 hl (k := 3) rfl (nI_add i 1) (by decide) rfl (fun ls hl => ?_)
      refine lv_goto (tgt := 4) hx hb dX9_explained_25 (by decide) ?_
      exact ih4 (i + 1) (lN (toA sh U V Te Si Ba Sm Gr k i)) (lN (toB sh U V Te Si Ba Sm Gr k i)) _ _ _ (by omega) (by omega) (hP.sub [0, 1, 2, 3, 4, 5, 6, 7, 8, 9] rfl) (hD.sub [0, 1, 2, 3, 4, 5, 6, 7, 8, 9] (by decide) rfl) hS (lv_sub hl [2, 3, 1, 0] rfl)
set_option maxHeartbeats 1000000 in
set_option maxRecDepth 100000 in
theorem c_X9_canBeNamed (l : Launch) (E : EnvT) (sz : Nat) (m0 : Nat) (sh : Nat) (rO : Nat) (rU : Nat) (rT : Nat) (rg : Nat) (rS : Nat) (rB : Nat) (rP : Nat) (rG : Nat) (ab0 : Int64) (be0 : Int64) (mk : Int32) (rM : Nat) (md : Int32) (rN : Nat) (rL : Nat) (rZ : Nat) (rE : Nat) (rI : Nat) (hc : Int32) (rA : Nat) (rX : Nat) (n : Nat) (rV : Nat) (rW : Nat) (th : Nat) (rC : Nat) (rF : Nat) (rQ : Nat) (rK : Nat) (rR : Nat) (rD : Nat) (U : Nat → Nat) (V : Nat → Nat) (Te : Nat → Nat) (Si : Nat → Nat) (Ba : Nat → Nat) (Sm : Nat → Nat) (Gr : Nat → Nat) (To : Nat → Int32) (Bo : Nat → Int32) (k : Nat) (hM : ModM sh rg U V Te Si Ba Sm Gr) (hk : k < 2 * sh - 1 + 4 * rg) (hn : n ≤ 12) (hth : th ≤ 100) : Met l yX9_canBeNamed wsX9_canBeNamed ({ frames := 4, cells := 0, slots := 0, locals := 101 }) (va_Pc [.ref m0, .int (nI k)] (PW E [(m0, .inr (9, [.int (nI sh), .ref rO, .ref rU, .ref rT, .int (nI rg), .ref rS, .ref rB, .ref rP, .ref rG, .long ab0, .long be0, .int mk, .ref rM, .int md, .ref rN, .ref rL, .ref rZ, .ref rE, .ref rI, .int hc, .ref rA, .ref rX, .int (nI n), .ref rV, .ref rW, .int (nI th), .ref rC, .ref rF, .ref rQ, .ref rK, .ref rR, .ref rD])), (rO, .inl (E.2 2, 4, .inr (.inl (lA U)))), (rU, .inl (E.2 2, 4, .inr (.inl (lA V)))), (rT, .inl (E.2 1, 4, .inl (nA Te))), (rS, .inl (E.2 1, 8, .inl (nA Si))), (rB, .inl (E.2 1, 8, .inl (nA Ba))), (rP, .inl (E.2 1, 8, .inl (nA Sm))), (rG, .inl (E.2 1, 8, .inl (nA Gr))), (rV, .inl (E.2 1, 12, .inl To)), (rW, .inl (E.2 1, 12, .inl Bo))] sz)) (va_Qi (fun (r : Int32) (uu : Int64 × Int64) => r = if allS To Bo th n (lA (toA sh U V Te Si Ba Sm Gr k)) (lA (toB sh U V Te Si Ba Sm Gr k)) (tnN sh k) = true then 1 else 0) (fun (uu : Int64 × Int64) t => BW E (va_A [(m0, .inr (9, [.int (nI sh), .ref rO, .ref rU, .ref rT, .int (nI rg), .ref rS, .ref rB, .ref rP, .ref rG, .long ab0, .long be0, .int mk, .ref rM, .int md, .ref rN, .ref rL, .ref rZ, .ref rE, .ref rI, .int hc, .ref rA, .ref rX, .int (nI n), .ref rV, .ref rW, .int (nI th), .ref rC, .ref rF, .ref rQ, .ref rK, .ref rR, .ref rD])), (rO, .inl (E.2 2, 4, .inr (.inl (lA U)))), (rU, .inl (E.2 2, 4, .inr (.inl (lA V)))), (rT, .inl (E.2 1, 4, .inl (nA Te))), (rS, .inl (E.2 1, 8, .inl (nA Si))), (rB, .inl (E.2 1, 8, .inl (nA Ba))), (rP, .inl (E.2 1, 8, .inl (nA Sm))), (rG, .inl (E.2 1, 8, .inl (nA Gr))), (rV, .inl (E.2 1, 12, .inl To)), (rW, .inl (E.2 1, 12, .inl Bo))] sz) [(m0, .inr (9, [.int (nI sh), .ref rO, .ref rU, .ref rT, .int (nI rg), .ref rS, .ref rB, .ref rP, .ref rG, .long uu.1, .long uu.2, .int mk, .ref rM, .int md, .ref rN, .ref rL, .ref rZ, .ref rE, .ref rI, .int hc, .ref rA, .ref rX, .int (nI n), .ref rV, .ref rW, .int (nI th), .ref rC, .ref rF, .ref rQ, .ref rK, .ref rR, .ref rD])), (rO, .inl (E.2 2, 4, .inr (.inl (lA U)))), (rU, .inl (E.2 2, 4, .inr (.inl (lA V)))), (rT, .inl (E.2 1, 4, .inl (nA Te))), (rS, .inl (E.2 1, 8, .inl (nA Si))), (rB, .inl (E.2 1, 8, .inl (nA Ba))), (rP, .inl (E.2 1, 8, .inl (nA Sm))), (rG, .inl (E.2 1, 8, .inl (nA Gr))), (rV, .inl (E.2 1, 12, .inl To)), (rW, .inl (E.2 1, 12, .inl Bo))] t) (va_A [(m0, .inr (9, [.int (nI sh), .ref rO, .ref rU, .ref rT, .int (nI rg), .ref rS, .ref rB, .ref rP, .ref rG, .long ab0, .long be0, .int mk, .ref rM, .int md, .ref rN, .ref rL, .ref rZ, .ref rE, .ref rI, .int hc, .ref rA, .ref rX, .int (nI n), .ref rV, .ref rW, .int (nI th), .ref rC, .ref rF, .ref rQ, .ref rK, .ref rR, .ref rD])), (rO, .inl (E.2 2, 4, .inr (.inl (lA U)))), (rU, .inl (E.2 2, 4, .inr (.inl (lA V)))), (rT, .inl (E.2 1, 4, .inl (nA Te))), (rS, .inl (E.2 1, 8, .inl (nA Si))), (rB, .inl (E.2 1, 8, .inl (nA Ba))), (rP, .inl (E.2 1, 8, .inl (nA Sm))), (rG, .inl (E.2 1, 8, .inl (nA Gr))), (rV, .inl (E.2 1, 12, .inl To)), (rW, .inl (E.2 1, 12, .inl Bo))] sz)) 0 0 (va_A [(m0, .inr (9, [.int (nI sh), .ref rO, .ref rU, .ref rT, .int (nI rg), .ref rS, .ref rB, .ref rP, .ref rG, .long ab0, .long be0, .int mk, .ref rM, .int md, .ref rN, .ref rL, .ref rZ, .ref rE, .ref rI, .int hc, .ref rA, .ref rX, .int (nI n), .ref rV, .ref rW, .int (nI th), .ref rC, .ref rF, .ref rQ, .ref rK, .ref rR, .ref rD])), (rO, .inl (E.2 2, 4, .inr (.inl (lA U)))), (rU, .inl (E.2 2, 4, .inr (.inl (lA V)))), (rT, .inl (E.2 1, 4, .inl (nA Te))), (rS, .inl (E.2 1, 8, .inl (nA Si))), (rB, .inl (E.2 1, 8, .inl (nA Ba))), (rP, .inl (E.2 1, 8, .inl (nA Sm))), (rG, .inl (E.2 1, 8, .inl (nA Gr))), (rV, .inl (E.2 1, 12, .inl To)), (rW, .inl (E.2 1, 12, .inl Bo))] sz) := by
  refine Met.ofW (cc := cX9_canBeNamed) (maxL := 4) (ret := (some .boolean)) (by decide +kernel) rfl ?_
  intro p e s m args below meth c s₁ B hml hv
  obtain ⟨rfl, hsz, hP, hE, hD0⟩ := hv
  have hx := B.exec
  have hb := B.bytes
  have hr := B.returns
  have hts := atoms_spec (ws := wsX9_canBeNamed) B.pre
  have hown : s.vm.findClass RX9 = some m.cls := findClass_of_methodNamed B.named
  have hlocks := B.notSynchronized
  have hK := hE.1
  have hNN := hE.2.1
  subst hsz
  have hD := hD0.self (sz := s.heap.size)
  generalize hAe : va_A [(m0, .inr (9, [.int (nI sh), .ref rO, .ref rU, .ref rT, .int (nI rg), .ref rS, .ref rB, .ref rP, .ref rG, .long ab0, .long be0, .int mk, .ref rM, .int md, .ref rN, .ref rL, .ref rZ, .ref rE, .ref rI, .int hc, .ref rA, .ref rX, .int (nI n), .ref rV, .ref rW, .int (nI th), .ref rC, .ref rF, .ref rQ, .ref rK, .ref rR, .ref rD])), (rO, .inl (E.2 2, 4, .inr (.inl (lA U)))), (rU, .inl (E.2 2, 4, .inr (.inl (lA V)))), (rT, .inl (E.2 1, 4, .inl (nA Te))), (rS, .inl (E.2 1, 8, .inl (nA Si))), (rB, .inl (E.2 1, 8, .inl (nA Ba))), (rP, .inl (E.2 1, 8, .inl (nA Sm))), (rG, .inl (E.2 1, 8, .inl (nA Gr))), (rV, .inl (E.2 1, 12, .inl To)), (rW, .inl (E.2 1, 12, .inl Bo))] s.heap.size = A at hD ⊢
  have hA : ∀ q : Nat, s.heap.size ≤ q → A q := fun q h => by rw [← hAe]; exact Or.inr h
  have hS : va_S A s.heap s.heap [] := va_S.rf
  have hl := lv_entry ([.ref m0, .int (nI k)]) (n := 4) (Nat.le_of_ble_eq_true rfl)
  rw [lg_entry_eq]
  generalize (lg_sl ([.ref m0, .int (nI k)]) ++ List.replicate (4 - (lg_sl ([.ref m0, .int (nI k)])).length) Slot.unset).toArray = ls at hl ⊢
  have hl : lv_has ls 4 [(0, .ref m0), (1, .int (nI k))] := hl
  have htn := tnN_in sh k
  obtain ⟨⟨hs1, hs4, hr8⟩, -⟩ := id hM
  refine lv_iconst (v := 1) hx hb dX9_canBeNamed_0 (by decide) ?_
  refine lv_istore_n (lv' := [(2, .int 1), (0, .ref m0), (1, .int (nI k))]) hx hb dX9_canBeNamed_1 rfl hl (by decide) rfl (fun ls hl => ?_)
  refine lv_iconst (v := 0) hx hb dX9_canBeNamed_2 (by decide) ?_
  refine lv_istore_n (lv' := [(3, .int 0), (2, .int 1), (0, .ref m0), (1, .int (nI k))]) hx hb dX9_canBeNamed_3 rfl hl (by decide) rfl (fun ls hl => ?_)
  refine (fun (lp4 : ∀ (n9 : Nat) (i : Nat) (ab : Int64) (be : Int64) (H : Heap) (locs : List Loc) (ls : Array Slot), (tnN sh k - i) < n9 → (i ≤ tnN sh k) → va_P E.1 vwCl [(m0, .inr (9, [.int (nI sh), .ref rO, .ref rU, .ref rT, .int (nI rg), .ref rS, .ref rB, .ref rP, .ref rG, .long ab, .long be, .int mk, .ref rM, .int md, .ref rN, .ref rL, .ref rZ, .ref rE, .ref rI, .int hc, .ref rA, .ref rX, .int (nI n), .ref rV, .ref rW, .int (nI th), .ref rC, .ref rF, .ref rQ, .ref rK, .ref rR, .ref rD])), (rO, .inl (E.2 2, 4, .inr (.inl (lA U)))), (rU, .inl (E.2 2, 4, .inr (.inl (lA V)))), (rT, .inl (E.2 1, 4, .inl (nA Te))), (rS, .inl (E.2 1, 8, .inl (nA Si))), (rB, .inl (E.2 1, 8, .inl (nA Ba))), (rP, .inl (E.2 1, 8, .inl (nA Sm))), (rG, .inl (E.2 1, 8, .inl (nA Gr))), (rV, .inl (E.2 1, 12, .inl To)), (rW, .inl (E.2 1, 12, .inl Bo))] H → va_D A [(m0, .inr (9, [.int (nI sh), .ref rO, .ref rU, .ref rT, .int (nI rg), .ref rS, .ref rB, .ref rP, .ref rG, .long ab, .long be, .int mk, .ref rM, .int md, .ref rN, .ref rL, .ref rZ, .ref rE, .ref rI, .int hc, .ref rA, .ref rX, .int (nI n), .ref rV, .ref rW, .int (nI th), .ref rC, .ref rF, .ref rQ, .ref rK, .ref rR, .ref rD])), (rO, .inl (E.2 2, 4, .inr (.inl (lA U)))), (rU, .inl (E.2 2, 4, .inr (.inl (lA V)))), (rT, .inl (E.2 1, 4, .inl (nA Te))), (rS, .inl (E.2 1, 8, .inl (nA Si))), (rB, .inl (E.2 1, 8, .inl (nA Ba))), (rP, .inl (E.2 1, 8, .inl (nA Sm))), (rG, .inl (E.2 1, 8, .inl (nA Gr))), (rV, .inl (E.2 1, 12, .inl To)), (rW, .inl (E.2 1, 12, .inl Bo))] → va_S A s.heap H locs → lv_has ls 4 [(0, .ref m0), (1, .int (nI k)), (2, .int (if allS To Bo th n (lA (toA sh U V Te Si Ba Sm Gr k)) (lA (toB sh U V Te Si Ba Sm Gr k)) i = true then 1 else 0)), (3, .int (nI i))] → W p l e _ s m _ below meth c H locs _ _ _ (F0 m 4 ls [])) => lp4 (tnN sh k + 1) 0 ab0 be0 _ _ _ (by omega) (by omega) (hP.sub [0, 1, 2, 3, 4, 5, 6, 7, 8, 9] rfl) (hD.sub [0, 1, 2, 3, 4, 5, 6, 7, 8, 9] (by decide) rfl) hS (lv_sub hl [2, 3, 1, 0] rfl)) ?_
  intro n4
  induction n4 with
  | zero => intro i ab be H locs ls h0; exact absurd (by assumption) (Nat.not_lt_zero _)
  | succ n4 ih4 =>
    intro i ab be H locs ls hmu4 hi hP hD hS hl
    have hb9 := nearN_lt2 To Bo th (lN (toA sh U V Te Si Ba Sm Gr k i)) (lN (toB sh U V Te Si Ba Sm Gr k i)) hn
    refine lv_iload_n hx hb dX9_canBeNamed_4 rfl (lv_at hl 3 rfl) ?_
    refine lv_aload_n hx hb dX9_canBeNamed_5 rfl (lv_at hl 0 rfl) ?_
    refine lv_iload_n hx hb dX9_canBeNamed_6 rfl (lv_at hl 1 rfl) ?_
    refine rVi hE ⟨hx, hb, hml, hown, hts⟩ (c_X9_tonesOf l E m0 sh rO rU rT rg rS rB rP rG ab be mk rM md rN rL rZ rE rI hc rA rX (nI n) rV rW (nI th) rC rF rQ rK rR rD k (hs1) (hs4) (hr8) (hk)) (cwV 1 hts gX9_canBeNamed_X9_tonesOf rfl rfl rfl (by decide +kernel) ⟨Nat.le_of_ble_eq_true rfl, Nat.le_of_ble_eq_true rfl⟩) (hP.sub [0] rfl) 0 9 rfl rfl rfl hl.1 rfl (Nat.le_of_ble_eq_true rfl) dX9_canBeNamed_7 ⟨(Nat.zero_le _), (Nat.zero_le _)⟩ ?_
    refine lv_icmp_ge (tgt := 38) hx hb dX9_canBeNamed_10 (by decide) (fun c_10 => ?_) (fun c_10 => ?_)
    · have c_10 : (tnN sh k) ≤ i := (nI_leI (a := tnN sh k) (b := i) (by omega) (by omega)).mp c_10
      refine lv_iload_n hx hb dX9_canBeNamed_38 rfl (lv_at hl 2 rfl) ?_
      have hP9 : va_P E.1 vwCl [(m0, .inr (9, [.int (nI sh), .ref rO, .ref rU, .ref rT, .int (nI rg), .ref rS, .ref rB, .ref rP, .ref rG, .long ab, .long be, .int mk, .ref rM, .int md, .ref rN, .ref rL, .ref rZ, .ref rE, .ref rI, .int hc, .ref rA, .ref rX, .int (nI n), .ref rV, .ref rW, .int (nI th), .ref rC, .ref rF, .ref rQ, .ref rK, .ref rR, .ref rD])), (rO, .inl (E.2 2, 4, .inr (.inl (lA U)))), (rU, .inl (E.2 2, 4, .inr (.inl (lA V)))), (rT, .inl (E.2 1, 4, .inl (nA Te))), (rS, .inl (E.2 1, 8, .inl (nA Si))), (rB, .inl (E.2 1, 8, .inl (nA Ba))), (rP, .inl (E.2 1, 8, .inl (nA Sm))), (rG, .inl (E.2 1, 8, .inl (nA Gr))), (rV, .inl (E.2 1, 12, .inl To)), (rW, .inl (E.2 1, 12, .inl Bo))] H := hP.sub [0, 1, 2, 3, 4, 5, 6, 7, 8, 9] rfl
      have hD9 : va_D A [(m0, .inr (9, [.int (nI sh), .ref rO, .ref rU, .ref rT, .int (nI rg), .ref rS, .ref rB, .ref rP, .ref rG, .long ab, .long be, .int mk, .ref rM, .int md, .ref rN, .ref rL, .ref rZ, .ref rE, .ref rI, .int hc, .ref rA, .ref rX, .int (nI n), .ref rV, .ref rW, .int (nI th), .ref rC, .ref rF, .ref rQ, .ref rK, .ref rR, .ref rD])), (rO, .inl (E.2 2, 4, .inr (.inl (lA U)))), (rU, .inl (E.2 2, 4, .inr (.inl (lA V)))), (rT, .inl (E.2 1, 4, .inl (nA Te))), (rS, .inl (E.2 1, 8, .inl (nA Si))), (rB, .inl (E.2 1, 8, .inl (nA Ba))), (rP, .inl (E.2 1, 8, .inl (nA Sm))), (rG, .inl (E.2 1, 8, .inl (nA Gr))), (rV, .inl (E.2 1, 12, .inl To)), (rW, .inl (E.2 1, 12, .inl Bo))] := hD.sub [0, 1, 2, 3, 4, 5, 6, 7, 8, 9] (by decide) rfl
      exact W.zret (v := if allS To Bo th n (lA (toA sh U V Te Si Ba Sm Gr k)) (lA (toB sh U V Te Si Ba Sm Gr k)) i = true then 1 else 0) hx hb hr (by split <;> rfl) (fun t9 ht9 hW9 => ⟨⟨if allS To Bo th n (lA (toA sh U V Te Si Ba Sm Gr k)) (lA (toB sh U V Te Si Ba Sm Gr k)) i = true then 1 else 0, (ab, be), rfl, by rw [show i = tnN sh k by omega], ⟨by rw [ht9]; exact hP9, hD9⟩⟩, hS.F ht9⟩) hS.2.2 dX9_canBeNamed_39
    · have c_10 : ¬ (tnN sh k) ≤ i := fun h9 => c_10 ((nI_leI (a := tnN sh k) (b := i) (by omega) (by omega)).mpr h9)
      refine lv_iload_n hx hb dX9_canBeNamed_13 rfl (lv_at hl 2 rfl) ?_
      refine lv_if_eq (tgt := 30) hx hb dX9_canBeNamed_14 (by decide) (fun c_14 => ?_) (fun c_14 => ?_)
      · have c_14 := ite1_0 c_14
        refine lv_iconst (v := 0) hx hb dX9_canBeNamed_30 (by decide) ?_
        refine lv_istore_n (lv' := [(2, .int 0), (0, .ref m0), (1, .int (nI k)), (3, .int (nI i))]) hx hb dX9_canBeNamed_31 rfl hl (by decide) rfl (fun ls hl => ?_)
        refine lv_iinc (v := nI (i + 1)) (lv' := [(3, .int (nI (i + 1))), (2, .int 0), (0, .ref m0), (1, .int (nI k))]) hx hb dX9_canBeNamed_32 hl (k := 3) rfl (nI_add i 1) (by decide) rfl (fun ls hl => ?_)
        refine lv_goto (tgt := 4) hx hb dX9_canBeNamed_35 (by decide) ?_
        have e9_0 : (if allS To Bo th n (lA (toA sh U V Te Si Ba Sm Gr k)) (lA (toB sh U V Te Si Ba Sm Gr k)) (i + 1) = true then (1 : Int32) else 0) = 0 := by first | exact if_neg (fun h9 => by rw [allS, Bool.and_eq_true] at h9; exact c_14 h9.1) | exact if_neg (fun h9 => by rw [allS, Bool.and_eq_true, decide_eq_true_eq] at h9; exact h9.2 c_23) | exact if_pos (by rw [allS, c_14, Bool.true_and]; exact decide_eq_true c_23)
        exact ih4 (i + 1) ab be _ _ _ (by omega) (by omega) (hP.sub [0, 1, 2, 3, 4, 5, 6, 7, 8, 9] rfl) (hD.sub [0, 1, 2, 3, 4, 5, 6, 7, 8, 9] (by decide) rfl) hS (by rw [e9_0]; exact lv_sub hl [2, 3, 1, 0] rfl)
      · have c_14 := ite1_1 c_14
        refine lv_aload_n hx hb dX9_canBeNamed_17 rfl (lv_at hl 0 rfl) ?_
        refine lv_iload_n hx hb dX9_canBeNamed_18 rfl (lv_at hl 1 rfl) ?_
        refine lv_iload_n hx hb dX9_canBeNamed_19 rfl (lv_at hl 3 rfl) ?_
        refine wVi (wr := []) hE ⟨hx, hb, hml, hown, hts⟩ (c_X9_nearOf l E H.size m0 sh rO rU rT rg rS rB rP rG ab be mk rM md rN rL rZ rE rI hc rA rX n rV rW th rC rF rQ rK rR rD U V Te Si Ba Sm Gr To Bo k i (hM) (hk) (by omega) (hn) (hth)) (cwV 2 hts gX9_canBeNamed_X9_nearOf rfl rfl rfl (by decide +kernel) ⟨Nat.le_of_ble_eq_true rfl, Nat.le_of_ble_eq_true rfl⟩) hP hD hS hA [0, 1, 2, 3, 4, 5, 6, 7, 8, 9] [] rfl rfl (by decide) (by decide) (by decide) 0 9 rfl rfl rfl hl.1 rfl (Nat.le_of_ble_eq_true rfl) dX9_canBeNamed_20 ⟨(Nat.zero_le _), (Nat.zero_le _)⟩ (fun r_20 u H locs hw hP hD hS => ?_)
        have hP : va_P E.1 vwCl [(m0, .inr (9, [.int (nI sh), .ref rO, .ref rU, .ref rT, .int (nI rg), .ref rS, .ref rB, .ref rP, .ref rG, .long (lN (toA sh U V Te Si Ba Sm Gr k i)), .long (lN (toB sh U V Te Si Ba Sm Gr k i)), .int mk, .ref rM, .int md, .ref rN, .ref rL, .ref rZ, .ref rE, .ref rI, .int hc, .ref rA, .ref rX, .int (nI n), .ref rV, .ref rW, .int (nI th), .ref rC, .ref rF, .ref rQ, .ref rK, .ref rR, .ref rD])), (rO, .inl (E.2 2, 4, .inr (.inl (lA U)))), (rU, .inl (E.2 2, 4, .inr (.inl (lA V)))), (rT, .inl (E.2 1, 4, .inl (nA Te))), (rS, .inl (E.2 1, 8, .inl (nA Si))), (rB, .inl (E.2 1, 8, .inl (nA Ba))), (rP, .inl (E.2 1, 8, .inl (nA Sm))), (rG, .inl (E.2 1, 8, .inl (nA Gr))), (rV, .inl (E.2 1, 12, .inl To)), (rW, .inl (E.2 1, 12, .inl Bo))] H := hP
        have hD : va_D A [(m0, .inr (9, [.int (nI sh), .ref rO, .ref rU, .ref rT, .int (nI rg), .ref rS, .ref rB, .ref rP, .ref rG, .long (lN (toA sh U V Te Si Ba Sm Gr k i)), .long (lN (toB sh U V Te Si Ba Sm Gr k i)), .int mk, .ref rM, .int md, .ref rN, .ref rL, .ref rZ, .ref rE, .ref rI, .int hc, .ref rA, .ref rX, .int (nI n), .ref rV, .ref rW, .int (nI th), .ref rC, .ref rF, .ref rQ, .ref rK, .ref rR, .ref rD])), (rO, .inl (E.2 2, 4, .inr (.inl (lA U)))), (rU, .inl (E.2 2, 4, .inr (.inl (lA V)))), (rT, .inl (E.2 1, 4, .inl (nA Te))), (rS, .inl (E.2 1, 8, .inl (nA Si))), (rB, .inl (E.2 1, 8, .inl (nA Ba))), (rP, .inl (E.2 1, 8, .inl (nA Sm))), (rG, .inl (E.2 1, 8, .inl (nA Gr))), (rV, .inl (E.2 1, 12, .inl To)), (rW, .inl (E.2 1, 12, .inl Bo))] := hD
        rw [hw]
        refine lv_if_eq (tgt := 30) hx hb dX9_canBeNamed_23 (by decide) (fun c_23 => ?_) (fun c_23 => ?_)
        · have c_23 : (nearN To Bo th (lN (toA sh U V Te Si Ba Sm Gr k i)) (lN (toB sh U V Te Si Ba Sm Gr k i)) n) = 0 := (nI_eq (a := nearN To Bo th (lN (toA sh U V Te Si Ba Sm Gr k i)) (lN (toB sh U V Te Si Ba Sm Gr k i)) n) (b := 0) (by omega) (by omega)).mp c_23
          refine lv_iconst (v := 0) hx hb dX9_canBeNamed_30 (by decide) ?_
          refine lv_istore_n (lv' := [(2, .int 0), (0, .ref m0), (1, .int (nI k)), (3, .int (nI i))]) hx hb dX9_canBeNamed_31 rfl hl (by decide) rfl (fun ls hl => ?_)
          refine lv_iinc (v := nI (i + 1)) (lv' := [(3, .int (nI (i + 1))), (2, .int 0), (0, .ref m0), (1, .int (nI k))]) hx hb dX9_canBeNamed_32 hl (k := 3) rfl (nI_add i 1) (by decide) rfl (fun ls hl => ?_)
          refine lv_goto (tgt := 4) hx hb dX9_canBeNamed_35 (by decide) ?_
          have e9_0 : (if allS To Bo th n (lA (toA sh U V Te Si Ba Sm Gr k)) (lA (toB sh U V Te Si Ba Sm Gr k)) (i + 1) = true then (1 : Int32) else 0) = 0 := by first | exact if_neg (fun h9 => by rw [allS, Bool.and_eq_true] at h9; exact c_14 h9.1) | exact if_neg (fun h9 => by rw [allS, Bool.and_eq_true, decide_eq_true_eq] at h9; exact h9.2 c_23) | exact if_pos (by rw [allS, c_14, Bool.true_and]; exact decide_eq_true c_23)
          exact ih4 (i + 1) (lN (toA sh U V Te Si Ba Sm Gr k i)) (lN (toB sh U V Te Si Ba Sm Gr k i)) _ _ _ (by omega) (by omega) (hP.sub [0, 1, 2, 3, 4, 5, 6, 7, 8, 9] rfl) (hD.sub [0, 1, 2, 3, 4, 5, 6, 7, 8, 9] (by decide) rfl) hS (by rw [e9_0]; exact lv_sub hl [2, 3, 1, 0] rfl)
        · have c_23 : ¬ (nearN To Bo th (lN (toA sh U V Te Si Ba Sm Gr k i)) (lN (toB sh U V Te Si Ba Sm Gr k i)) n) = 0 := fun h9 => c_23 ((nI_eq (a := nearN To Bo th (lN (toA sh U V Te Si Ba Sm Gr k i)) (lN (toB sh U V Te Si Ba Sm Gr k i)) n) (b := 0) (by omega) (by omega)).mpr h9)
          refine lv_iconst (v := 1) hx hb dX9_canBeNamed_26 (by decide) ?_
          refine lv_goto (tgt := 31) hx hb dX9_canBeNamed_27 (by decide) ?_
          refine lv_istore_n (lv' := [(2, .int 1), (0, .ref m0), (1, .int (nI k)), (3, .int (nI i))]) hx hb dX9_canBeNamed_31 rfl hl (by decide) rfl (fun ls hl => ?_)
          refine lv_iinc (v := nI (i + 1)) (lv' := [(3, .int (nI (i + 1))), (2, .int 1), (0, .ref m0), (1, .int (nI k))]) hx hb dX9_canBeNamed_32 hl (k := 3) rfl (nI_add i 1) (by decide) rfl (fun ls hl => ?_)
          refine lv_goto (tgt := 4) hx hb dX9_canBeNamed_35 (by decide) ?_
          have e9_0 : (if allS To Bo th n (lA (toA sh U V Te Si Ba Sm Gr k)) (lA (toB sh U V Te Si Ba Sm Gr k)) (i + 1) = true then (1 : Int32) else 0) = 1 := by first | exact if_neg (fun h9 => by rw [allS, Bool.and_eq_true] at h9; exact c_14 h9.1) | exact if_neg (fun h9 => by rw [allS, Bool.and_eq_true, decide_eq_true_eq] at h9; exact h9.2 c_23) | exact if_pos (by rw [allS, c_14, Bool.true_and]; exact decide_eq_true c_23)
          exact ih4 (i + 1) (lN (toA sh U V Te Si Ba Sm Gr k i)) (lN (toB sh U V Te Si Ba Sm Gr k i)) _ _ _ (by omega) (by omega) (hP.sub [0, 1, 2, 3, 4, 5, 6, 7, 8, 9] rfl) (hD.sub [0, 1, 2, 3, 4, 5, 6, 7, 8, 9] (by decide) rfl) hS (by rw [e9_0]; exact lv_sub hl [2, 3, 1, 0] rfl)
