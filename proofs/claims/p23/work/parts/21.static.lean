/-! the static table, and readers that need it -/
def wvT (k : Nat) : Int32 := if k = 0 then 1000 else if k = 1 then 981 else if k = 2 then 924 else if k = 3 then 831 else if k = 4 then 707 else if k = 5 then 556 else if k = 6 then 383 else if k = 7 then 195 else 0
def wk (r : Nat) : Nat := if 16 < r then 32 - r else r
def wvN (r : Nat) : Int32 := if 8 < wk r then -(wvT (16 - wk r)) else wvT (wk r)
def EQh (tq : Nat) (U : State) (H : Heap) : Prop := va_Z "WornRings" "QUARTER" "[I" (.ref tq) (fun _ => False) U H ∧ va_T .int tq 9 (fun j => .int (wvT j)) (fun _ => False) U H
def PRq (E : EnvT) (ws : va_W) (tq : Nat) (U : State) : Prop := PR E ws U ∧ EQh tq U U.heap
theorem EQh.moved {tq : Nat} {u U : State} {H : Heap} (hvm : u.vm.Alike U.vm) (h : EQh tq u H) : EQh tq U H := ⟨h.1.moved hvm, h.2.moved hvm⟩
theorem PRq_blind {E : EnvT} {ws : va_W} {av : List Value} {tq : Nat} : FrameBlind (va_Pc av (PRq E ws tq)) := fun _ U g mk q => ⟨q.1, ⟨q.2.1.1, q.2.1.2.calling⟩, EQh.moved (u := U) (U := U.calling g mk _) (Vm.Alike.refl U.vm) q.2.2⟩
section KQ
variable {p : Program} {l : Launch} {e : Env} {R : Room} {s : State} {m : MethodId} {args : Array Value} {below : List Frame} {meth : Method} {c : Code} {H H0 : Heap} {locs : List Loc} {cells slots : Nat} {Q : State → Prop} {cc bytes : ByteArray} {pc : Nat} {ls : Array Slot} {st rest As : List Value} {E : EnvT} {y : MethodName} {maxL nL n index mc ms : Nat} {ret : Option FieldType} {wy Ts : List Cond} {rm : Room} {own C host : String} {b : Addr} {ws wc wr w0 : va_W} {fs : List Value} {T : u_T} {N : Nat} {A : Nat → Prop}

theorem rVlq {tq : Nat} {r0 : Int64} (hE : EV E s) (hQ : EQh tq s H) (S : CallFix p m c cc nL s args Ts own) (hM : Met l y wy rm (va_Pc (.ref b :: As) (PRq E ws tq)) (vp_Sl (fun r => r = r0)) 0 0 (fun _ => False)) (cw : CallW R s args own C index y bytes maxL ret wy rm 0 0 n) (hP : va_P E.1 vwCl ws H) (q0 ci : Nat) (hcl : vwCl[ci]? = some (C, T, N)) (he : ws[q0]? = some (b, .inr (ci, fs))) (hn : As.length = n) (hls : ls.size = nL) (hst : st = As.reverse ++ .ref b :: rest) (hW : (rest.map fun v => v.category).sum ≤ 8) (hdg : decode cc pc = .ok (.invokevirtual index, 3)) (hf : cells ≤ R.cells ∧ slots ≤ R.slots)
    (kk : W p l e R s m args below meth c H locs cells slots Q (F0 m (pc + 3) ls (.long r0 :: rest))) : W p l e R s m args below meth c H locs cells slots Q (F0 m pc ls st) :=
  vp_callSl (va_Run.run (va_runV S hM cw ⟨PRq_blind, va_recv hE.1 hP hcl he, fun U hU hW => ⟨rfl, ⟨by rw [hU]; exact hP, hE.warm hW⟩, by rw [hU]; exact hQ.moved hW.alike⟩⟩ rfl hn hls hst (lv_room hW) hdg hf)) (fun r hr => by rw [hr]; exact kk)
theorem rSNiq {tq : Nat} {r0 : Int32} (hE : EV E s) (hQ : EQh tq s H) (S : CallFix p m c cc nL s args Ts own) (hM : Met l y wy rm (va_Pc As (PRq E ws tq)) (vp_Si (fun r => r = r0)) 0 0 (fun _ => False)) (cw : va_CN R s args own index y host bytes maxL ret wy rm 0 0 n ∧ (Cond.static y).before args s = true ∧ True) (hP : va_P E.1 vwCl ws H) (hn : As.length = n) (hls : ls.size = nL) (hst : st = As.reverse ++ rest) (hW : (rest.map fun v => v.category).sum ≤ 8) (hdg : decode cc pc = .ok (.invokestatic index, 3)) (hf : cells ≤ R.cells ∧ slots ≤ R.slots)
    (kk : W p l e R s m args below meth c H locs cells slots Q (F0 m (pc + 3) ls (.int r0 :: rest))) : W p l e R s m args below meth c H locs cells slots Q (F0 m pc ls st) :=
  vp_callSi (va_Run.run (va_runSN S hM cw ⟨PRq_blind, fun U hU hW => ⟨rfl, ⟨by rw [hU]; exact hP, hE.warm hW⟩, by rw [hU]; exact hQ.moved hW.alike⟩⟩ rfl hn hls hst (lv_room hW) hdg hf)) (fun r hr => by rw [hr]; exact kk)
end KQ
