/-! contracts of methods that may draw -/
theorem y_ofWD {l : Launch} {D : va_G} {t : Nat → ClassId} {sz : Nat} {y : MethodName} {ws ws' : List Cond} {rm : Room} {av : List Value} {wc : va_W} {Qc : (Nat → Prop) → Array Value → State → Outcome → State → Prop} {mc ms : Nat} {cc : ByteArray} {maxL : Nat} {ret : Option FieldType}
    (hy : plainName y.cls = true) (hw : ws = Cond.code y cc maxL ret :: ws') (hlen : (lg_sl av).length ≤ maxL)
    (body : ∀ (p : Program) (e : Env) (s : State) (m : MethodId) (below : List Frame) (meth : Method) (c : Code) (A : Nat → Prop) (ls : Array Slot), p.tables.exec = Jvm.exec → c.code = cc → meth.sig.returnType = ret → (∀ w ∈ ws, w.before av.toArray s = true) → meth.locks = false → c.maxLocals = maxL → s.vm.findClass y.cls = some m.cls → meth.name = y.name → (∀ q : Nat, s.heap.size ≤ q → A q) → yK D t s → va_P D vwCl wc s.heap → va_D A wc → va_S A s.heap s.heap [] → lv_has ls maxL (lv_args 0 av) → s.drawn.sameBut s.drawn lw_cs →
      W p l e (headSpec ws rm).room (s.setDrawn s.drawn) m av.toArray below meth c s.heap [] 0 0 (MQD lw_cs below (Qc A) av.toArray s mc ms A) (F0 m 0 ls [])) : MetD lw_cs l y ws rm (va_Pc av (yS D t sz wc)) (Qc (va_A wc sz)) mc ms (va_A wc sz) := by
  refine MetD.ofW (cc := cc) (maxL := maxL) (ret := ret) hy hw ?_
  intro p e s m args below meth c s₁ B hml hv hd0
  obtain ⟨rfl, hsz, hP, hK, hD0⟩ := hv
  subst hsz
  rw [lg_entry_eq]
  exact body p e s m below meth c (va_A wc s.heap.size) _ B.exec B.bytes B.returns (atoms_spec (ws := ws) B.pre) B.notSynchronized hml (findClass_of_methodNamed B.named) (name_of_methodNamed B.named B.method).1 (fun q h => Or.inr h) hK hP hD0.self va_S.rf (lv_entry av hlen) hd0
section YWD
variable {p : Program} {l : Launch} {e : Env} {R : Room} {s : State} {m : MethodId} {args : Array Value} {below : List Frame} {meth : Method} {c : Code} {H : Heap} {locs : List Loc} {cells slots : Nat} {Q : State → Prop}
variable {cc : ByteArray} {pc : Nat} {ls : Array Slot} {rest : List Value}
variable {y : MethodName} {bytes : ByteArray} {maxL nL mc ms n index : Nat} {ret : Option FieldType} {wsY : List Cond} {rm : Room} {Ts : List Cond} {own C : String} {b : Addr} {As st0 : List Value} {D : va_G} {t : Nat → ClassId} {A0 : Nat → Prop} {H0 : Heap} {wc wr ws : va_W} {ci : Nat} {fs : List Value} {r : vw_C}
theorem y_VdD {S : Type} {post : UInt64 → S → Prop} {w1 : S → va_W} (isC isR : List Nat) {d0 : Drawn} (hd0 : s.drawn.sameBut d0 lw_cs) (SF : CallFix p m c cc nL (s.setDrawn d0) args Ts own)
    (hM : MetD lw_cs l y wsY rm (va_Pc (.ref b :: As) (yS D t H.size wc)) (va_Qd post (fun u tt => yB D t (va_A wc H.size) (w1 u) tt) (va_A wc H.size)) mc ms (va_A wc H.size))
    (cw : CallW R (s.setDrawn d0) args own C index y bytes maxL ret wsY rm mc ms n) (hKK : yK D t s) (hP : va_P D vwCl ws H) (hD : va_D A0 ws) (hS : va_S A0 H0 H locs) (hA : ∀ q, H0.size ≤ q → A0 q)
    (hC : isC.map (fun i => ws[i]?) = wc.map some) (hR : isR.map (fun i => ws[i]?) = wr.map some) (hnC : va_nd isC = true) (hnR : va_nd isR = true) (hdis : ∀ i ∈ isR, i ∉ isC)
    (he : wc[0]? = some (b, .inr (ci, fs))) (hcl : vwCl[ci]? = some r) (hr1 : r.1 = C) (hn : As.length = n) (hsize : ls.size = nL) (hst : st0 = As.reverse ++ .ref b :: rest) (hW : (rest.map fun v => v.category).sum ≤ 8) (hdg : decode cc pc = .ok (.invokevirtual index, 3)) (hf : cells + mc ≤ R.cells ∧ slots + ms ≤ R.slots)
    (kk : ∀ (x : UInt64) (u : S) (H1 : Heap) (locs1 : List Loc) (d1 : Drawn), s.drawn.sameBut d1 lw_cs → post x u → va_P D vwCl (wr ++ w1 u) H1 → va_D A0 (wr ++ w1 u) → va_S A0 H0 H1 locs1 → W p l e R (s.setDrawn d1) m args below meth c H1 locs1 (cells + mc) (slots + ms) Q (F0 m (pc + 3) ls (.double x :: rest))) : W p l e R (s.setDrawn d0) m args below meth c H locs cells slots Q (F0 m pc ls st0) := by
  obtain ⟨hPc, hDc⟩ := y_cut hP hD isC hC hnC
  have hFc := va_free (wc := wc) hD hS hA isC hC
  subst hr1
  refine va_calldD hd0 (va_runV_D (As := As) (rest := rest) SF hM cw ⟨yS_blind, va_recv hKK.1 hPc (q0 := 0) hcl he, yS_pre (s := s.setDrawn d0) hPc hKK hDc⟩ rfl hn hsize hst (lv_room hW) hdg hf) hS (fun q _ h => hFc q h) hFc (fun x u tt H1 locs1 ht hvm hw hB hz1 hk1 hS1 d1 hd1 => ?_)
  obtain ⟨hP1, -, hD1⟩ := hB
  rw [ht] at hP1
  obtain ⟨hP2, hD2⟩ := va_join (wr := wr) (w1 := w1 u) hP hD isC isR hC hR hnR hdis hk1 hFc hP1 hD1
  exact kk x u H1 locs1 d1 hd1 hw hP2 hD2 hS1
end YWD
