/-! the state of class and model, side by side -/
structure ZT where
  (g0 gm gk gs ga gl gh gd aa ab ao ag ar a0 av a1 a2 an ae af ac m0 rO rU rT rS rB rP rG rM rN rL rZ rE rI rA rX rV rW rC rF rQ rK rR rD un sh rg k lt n th : Nat)
  (sq si lq lb U V M Ti Tn Sz st Sp Nu Ex Fw Ch Cv FF Mn Te Si Ba Sm Gr : Nat → Nat)
  (fo fg fr fs fd : Nat → Option Nat)
  (wA wB md tl cd tg sz ld : Int32)
  (hd ln La It gg mm To Bo mid wr Wd Rd Nm : Nat → Int32)
  (f lf : Nat → Nat → Int32)
  (Su : Nat → Int64)
  (ux uy : Int64)
  (L : List Nat)
  (ps : List PRt)
def wC (E : EnvT) (z : ZT) : va_W := [(z.g0, .inr (8, [.ref z.gm, .ref z.gk, .ref z.gs, .ref z.ga, .ref z.gl, .ref z.gh, .ref z.gd, .int z.wA, .int z.wB, .int (nI z.un)])), (z.gm, .inr (3, [.ref z.aa, .ref z.ab, .ref z.ao, .ref z.ag, .ref z.ar, .int (nI z.sh), .int (nI z.rg)])), (z.aa, .inl (E.2 2, 4, .inr (.inl (lA z.U)))), (z.ab, .inl (E.2 2, 4, .inr (.inl (lA z.V)))), (z.ao, .inl (E.2 4, 4, .inr (.inr (.inr (.inr z.fo))))), (z.ag, .inl (E.2 4, 4, .inr (.inr (.inr (.inr z.fg))))), (z.ar, .inl (E.2 4, 32, .inr (.inr (.inr (.inr z.fr))))), (z.gk, .inr (4, [.ref z.a0, .int (nI z.L.length), .int (nI z.k), .int (nI z.lt)])), (z.a0, .inl (E.2 1, 120, .inl (nA z.M))), (z.gs, .inl (E.2 5, 4, .inr (.inr (.inr (.inr z.fs))))), (z.ga, .inr (5, [.ref z.av, .int z.tl])), (z.av, .inl (E.2 1, 32, .inl z.gg)), (z.gl, .inr (1, [.ref z.a1, .ref z.a2, .int (nI z.n), .int (nI z.th)])), (z.a1, .inl (E.2 1, 12, .inl z.To)), (z.a2, .inl (E.2 1, 12, .inl z.Bo)), (z.gh, .inr (0, [.ref z.an, .ref z.ae, .ref z.af, .ref z.ac, .int z.cd, .int z.tg, .int z.sz, .int z.ld])), (z.an, .inl (E.2 1, 39, .inl (nA z.Nu))), (z.ae, .inl (E.2 1, 39, .inl (nA z.Ex))), (z.af, .inl (E.2 0, 4096, .inl (nA z.Fw))), (z.ac, .inl (E.2 1, 12, .inl (nA z.Ch))), (z.gd, .inl (E.2 6, 4, .inr (.inr (.inr (.inr z.fd))))), (z.sq 0, .inr (7, [.ref (z.si 0), .int (z.hd 0), .int (z.ln 0), .int (nI (z.Sz 0)), .int (nI (z.st 0))])), (z.si 0, .inl (E.2 1, 200, .inl (z.f 0))), (z.sq 1, .inr (7, [.ref (z.si 1), .int (z.hd 1), .int (z.ln 1), .int (nI (z.Sz 1)), .int (nI (z.st 1))])), (z.si 1, .inl (E.2 1, 200, .inl (z.f 1))), (z.sq 2, .inr (7, [.ref (z.si 2), .int (z.hd 2), .int (z.ln 2), .int (nI (z.Sz 2)), .int (nI (z.st 2))])), (z.si 2, .inl (E.2 1, 200, .inl (z.f 2))), (z.sq 3, .inr (7, [.ref (z.si 3), .int (z.hd 3), .int (z.ln 3), .int (nI (z.Sz 3)), .int (nI (z.st 3))])), (z.si 3, .inl (E.2 1, 200, .inl (z.f 3))), (z.lq 0, .inr (2, [.ref (z.lb 0), .int (nI (z.Mn 0)), .int (z.mid 0), .int (z.wr 0)])), (z.lb 0, .inl (E.2 1, 200, .inl (z.lf 0))), (z.lq 1, .inr (2, [.ref (z.lb 1), .int (nI (z.Mn 1)), .int (z.mid 1), .int (z.wr 1)])), (z.lb 1, .inl (E.2 1, 200, .inl (z.lf 1))), (z.lq 2, .inr (2, [.ref (z.lb 2), .int (nI (z.Mn 2)), .int (z.mid 2), .int (z.wr 2)])), (z.lb 2, .inl (E.2 1, 200, .inl (z.lf 2))), (z.lq 3, .inr (2, [.ref (z.lb 3), .int (nI (z.Mn 3)), .int (z.mid 3), .int (z.wr 3)])), (z.lb 3, .inl (E.2 1, 200, .inl (z.lf 3)))]
def wM (E : EnvT) (z : ZT) : va_W := [(z.m0, .inr (9, [.int (nI z.sh), .ref z.rO, .ref z.rU, .ref z.rT, .int (nI z.rg), .ref z.rS, .ref z.rB, .ref z.rP, .ref z.rG, .long z.ux, .long z.uy, .int (nI z.k), .ref z.rM, .int z.md, .ref z.rN, .ref z.rL, .ref z.rZ, .ref z.rE, .ref z.rI, .int z.tl, .ref z.rA, .ref z.rX, .int (nI z.n), .ref z.rV, .ref z.rW, .int (nI z.th), .ref z.rC, .ref z.rF, .ref z.rQ, .ref z.rK, .ref z.rR, .ref z.rD])), (z.rO, .inl (E.2 2, 4, .inr (.inl (lA z.U)))), (z.rU, .inl (E.2 2, 4, .inr (.inl (lA z.V)))), (z.rT, .inl (E.2 1, 4, .inl (nA z.Te))), (z.rS, .inl (E.2 1, 8, .inl (nA z.Si))), (z.rB, .inl (E.2 1, 8, .inl (nA z.Ba))), (z.rP, .inl (E.2 1, 8, .inl (nA z.Sm))), (z.rG, .inl (E.2 1, 8, .inl (nA z.Gr))), (z.rM, .inl (E.2 1, 60, .inl (nA z.Ti))), (z.rN, .inl (E.2 1, 120, .inl (nA z.Tn))), (z.rL, .inl (E.2 1, 4, .inl z.La)), (z.rZ, .inl (E.2 1, 4, .inl (nA z.Sz))), (z.rE, .inl (E.2 1, 4, .inl (nA z.Sp))), (z.rI, .inl (E.2 1, 800, .inl z.It)), (z.rA, .inl (E.2 1, 32, .inl z.mm)), (z.rX, .inl (E.2 2, 32, .inr (.inl z.Su))), (z.rV, .inl (E.2 1, 12, .inl z.To)), (z.rW, .inl (E.2 1, 12, .inl z.Bo)), (z.rC, .inl (E.2 1, 40, .inl (nA z.Cv))), (z.rF, .inl (E.2 1, 163840, .inl (nA z.FF))), (z.rQ, .inl (E.2 1, 3, .inl z.Nm)), (z.rK, .inl (E.2 1, 4, .inl (nA z.Mn))), (z.rR, .inl (E.2 1, 800, .inl z.Rd)), (z.rD, .inl (E.2 3, 4, .inl z.Wd))]
abbrev cvS (z : ZT) : Nat → Nat := covR z.sh z.rg z.U z.V z.Te z.Si z.Ba z.Sm z.Gr z.To z.Bo z.th z.n
structure Rel (z : ZT) : Prop where
  hM : ModM z.sh z.rg z.U z.V z.Te z.Si z.Ba z.Sm z.Gr
  hps : PsOk z.fo z.fg z.fr z.sh z.rg z.U z.V z.Te z.Si z.Ba z.Sm z.Gr z.ps
  hL : z.L = adAll z.Ti z.k
  hk : z.k ≤ 60
  hti : ∀ j, j + 1 < z.k → z.Ti j < z.Ti (j + 1)
  htb : ∀ j, j < z.k → z.Ti j ≤ 1000000
  hR : RLs z.M z.L
  hlt : z.lt ≤ 1000000
  hla : 0 < z.k → z.lt = z.Ti (z.k - 1)
  hfs : ∀ q, q < 4 → z.fs q = some (z.sq q)
  hfd : ∀ q, q < 4 → z.fd q = some (z.lq q)
  hSz : ∀ q, q < 4 → z.Sz q ≤ 200
  hst : ∀ q, q < 4 → 1 ≤ z.st q ∧ z.st q ≤ 1000
  hsh : ∀ q, q < 4 → (z.hd q = 0 ∧ z.La q < 0) ∨ (¬ z.hd q = 0 ∧ ¬ z.La q < 0 ∧ z.ln q = z.La q ∧ z.st q = z.Sp q)
  hIt : ∀ q, q < 4 → ∀ j, j < 200 → z.f q j = z.It (200 * q + j)
  hIb : ∀ j, -30000 ≤ (z.It j).toInt ∧ (z.It j).toInt ≤ 30000
  hgg : ∀ j, j < 32 → z.gg j = z.mm j
  hn : z.n ≤ 12
  hth : z.th ≤ 100
  hhp : z.ld = 0 ∨ (¬ z.ld = 0 ∧ z.sz = nI (hpR (cvS z)).length ∧ z.tg = nI (orC (cvS z) 39) ∧ RLs z.Ch (hpR (cvS z)))
  hFw : ∀ j, z.Fw j ≤ 12
  hCv : ∀ i, z.Cv i < 4096
  hMn : ∀ q, q < 4 → z.Mn q ≤ 200
  hmid : ∀ q, q < 4 → 5 ≤ z.Mn q → z.mid q = fMd (fun j => z.Rd (200 * q + j))
  hwr : ∀ q, q < 4 → z.wr q = z.Wd q ∧ (z.Wd q = 0 ∨ z.Wd q = 1)
  hlf : ∀ q, q < 4 → ∀ j, j < 200 → z.lf q j = z.Rd (200 * q + j)
  hNm : z.wA = z.Nm 0 ∧ z.wB = z.Nm 1 ∧ z.Nm 2 = nI z.un ∧ 1 ≤ z.un ∧ z.un ≤ 4
theorem vaP_mem {D : va_G} {cl : List vw_C} {ws : va_W} {H : Heap} : va_P D cl ws H ↔ ∀ q ∈ ws, va_at D cl q H :=
  ⟨fun h q hq => by obtain ⟨i, hi⟩ := List.getElem?_of_mem hq; exact h i q hi, fun h k q hk => h q (List.mem_of_getElem? hk)⟩
theorem vaD_mem {A : Nat → Prop} {ws : va_W} : va_D A ws ↔ (ws.map (·.1)).Nodup ∧ ∀ q ∈ ws, A q.1 := by
  constructor
  · intro h
    refine ⟨?_, fun q hq => by obtain ⟨i, hi⟩ := List.getElem?_of_mem hq; exact h.2 i q hi⟩
    refine List.pairwise_iff_getElem.mpr (fun i j hi hj hij he => ?_)
    have hi' : i < ws.length := by simpa using hi
    have hj' : j < ws.length := by simpa using hj
    rw [List.getElem_map, List.getElem_map] at he
    have := h.1 i j _ _ (List.getElem?_eq_getElem hi') (List.getElem?_eq_getElem hj') he
    omega
  · intro h
    refine ⟨fun i j p q h1 h2 e => ?_, fun k q hk => h.2 q (List.mem_of_getElem? hk)⟩
    have n := List.pairwise_iff_getElem.mp h.1
    obtain ⟨l1, e1⟩ := List.getElem?_eq_some_iff.mp h1
    obtain ⟨l2, e2⟩ := List.getElem?_eq_some_iff.mp h2
    have l1' : i < (ws.map (·.1)).length := by simpa using l1
    have l2' : j < (ws.map (·.1)).length := by simpa using l2
    rcases Nat.lt_trichotomy i j with x | x | x
    · exact absurd (by rw [List.getElem_map, List.getElem_map, e1, e2]; exact e) (n i j l1' l2' x)
    · exact x
    · exact absurd (by rw [List.getElem_map, List.getElem_map, e1, e2]; exact e.symm) (n j i l2' l1' x)
theorem vaP_perm {D : va_G} {cl : List vw_C} {ws ws' : va_W} {H : Heap} (h : ws.Perm ws') (hP : va_P D cl ws H) : va_P D cl ws' H := vaP_mem.mpr (fun q hq => vaP_mem.mp hP q (h.mem_iff.mpr hq))
theorem vaD_perm {A : Nat → Prop} {ws ws' : va_W} (h : ws.Perm ws') (hD : va_D A ws) : va_D A ws' :=
  vaD_mem.mpr ⟨(h.map _).nodup_iff.mp (vaD_mem.mp hD).1, fun q hq => (vaD_mem.mp hD).2 q (h.mem_iff.mpr hq)⟩
theorem perm_swap3 (a b c : va_W) : (a ++ (b ++ c)).Perm (b ++ (a ++ c)) := by
  rw [← List.append_assoc, ← List.append_assoc]
  exact List.Perm.append_right c List.perm_append_comm
theorem vaP_l {D : va_G} {cl : List vw_C} {a b : va_W} {H : Heap} (h : va_P D cl (a ++ b) H) : va_P D cl a H := vaP_mem.mpr (fun q hq => vaP_mem.mp h q (List.mem_append_left _ hq))
theorem vaP_r {D : va_G} {cl : List vw_C} {a b : va_W} {H : Heap} (h : va_P D cl (a ++ b) H) : va_P D cl b H := vaP_mem.mpr (fun q hq => vaP_mem.mp h q (List.mem_append_right _ hq))
theorem pool_r {E : EnvT} {ps : List PRt} {r : PRt} {H : Heap} (hP : va_P E.1 vwCl (poolC E ps) H) (hr : r ∈ ps) : va_P E.1 vwCl (prC E r) H := vaP_mem.mpr (fun q hq => vaP_mem.mp hP q (List.mem_flatMap.mpr ⟨r, hr, hq⟩))
/-- what stays through the law -/
structure LC (p : Program) (s : State) (m : MethodId) (c : Code) (b L : Nat) (xs : Nat → Int32) (E : EnvT) (tq : Nat) : Prop where
  hx : p.tables.exec = Jvm.exec
  hb : c.code = code
  hml : c.maxLocals = 4
  hown : s.vm.findClass RL = some m.cls
  hts : ∀ w ∈ wsL_law, w.before #[Value.ref b] s = true
  hX : va_X b L xs s s.heap
  hbl : b < s.heap.size
  hE : EV E s
  hQ : ∀ H, (∀ q : Nat, q < s.heap.size → H[q]? = s.heap[q]?) → EQh tq s H
  hL : L ≤ 2560
abbrev AA (s : State) : Nat → Prop := fun q => s.heap.size ≤ q
abbrev lvL (b : Nat) (z : ZT) (i : Nat) : List (Nat × Value) := [(0, .ref b), (1, .ref z.g0), (2, .ref z.m0), (3, .int (nI i))]
structure At (E : EnvT) (s : State) (z : ZT) (H : Heap) (locs : List Loc) : Prop where
  hP : va_P E.1 vwCl (wC E z ++ (wM E z ++ poolC E z.ps)) H
  hD : va_D (AA s) (wC E z ++ (wM E z ++ poolC E z.ps))
  hS : va_S (AA s) s.heap H locs
section LW
variable {p : Program} {l : Launch} {e : Env} {s : State} {m : MethodId} {below : List Frame} {meth : Method} {c : Code} {b L : Nat} {xs : Nat → Int32} {E : EnvT} {tq : Nat} {H : Heap} {locs : List Loc} {cells slots : Nat} {Q : State → Prop} {ls : Array Slot} {st : List Value} {i pc k : Nat} {z : ZT}
theorem ldA {v : Int32} {kI : Int} (C : LC p s m c b L xs E tq) (hl : lv_has ls 4 (lvL b z i)) (hi : i + 5 ≤ L) (hS : va_S (AA s) s.heap H locs) (hk : k ≤ 4) (hkI : Int32.ofInt kI = nI k) (d0 : decode code pc = .ok (.aload_n 0, 1)) (d1 : decode code (pc + 1) = .ok (.iload_n 3, 1)) (d2 : decode code (pc + 1 + 1) = .ok (.iconst kI, 1)) (d3 : decode code (pc + 1 + 1 + 1) = .ok (.iadd, 1)) (d4 : decode code (pc + 1 + 1 + 1 + 1) = .ok (.iaload, 1)) (hv : xs (i + k) = v)
    (kk : W p l e room_1 s m #[Value.ref b] below meth c H locs cells slots Q (F0 m (pc + 1 + 1 + 1 + 1 + 1) ls (.int v :: st))) : W p l e room_1 s m #[Value.ref b] below meth c H locs cells slots Q (F0 m pc ls st) := by
  have hL := C.hL
  refine lv_aload_n C.hx C.hb d0 rfl (lv_at hl 0 rfl) ?_
  refine lv_iload_n C.hx C.hb d1 rfl (lv_at hl 3 rfl) ?_
  refine lv_iconst (v := nI k) C.hx C.hb d2 hkI ?_
  refine lv_iadd C.hx C.hb d3 ?_
  have e1 : nI i + nI k = nI (i + k) := nI_add i k
  rw [e1]
  refine va_sld C.hx C.hb C.hX C.hbl (Nat.not_le.mpr C.hbl) hS (vp_in_nI (show i + k < L by omega) (by omega)) d4 ?_
  rw [nI_clamp (by omega), hv]
  exact kk
end LW
