/-! the law's rows over the whole world -/
def gH (D : va_G) (t : Nat → ClassId) (base x0 m0 : Nat) (ZI ZM : St) (H : Heap) : Prop := ∃ (ad : GK → Nat) (G : Nat → Nat → Nat → Int32), ad (0, 0, 0) = x0 ∧ ad (7, 0, 0) = m0 ∧ base ≤ H.size ∧ gW D (fun q => base ≤ q) ad (eA t ad G ZI ZM) H
theorem gH_of {D : va_G} {t : Nat → ClassId} {base x0 m0 : Nat} {ZI ZM : St} {U : State} (h : GP D t base x0 m0 ZI ZM U) : gH D t base x0 m0 ZI ZM U.heap := by
  obtain ⟨ad, G, a1, a2, a3, -, a5⟩ := h
  exact ⟨ad, G, a1, a2, a3, a5⟩
theorem GP_of {D : va_G} {t : Nat → ClassId} {base x0 m0 : Nat} {ZI ZM : St} {U : State} {H : Heap} (h : gH D t base x0 m0 ZI ZM H) (hU : U.heap = H) (hK : yK D t U) : GP D t base x0 m0 ZI ZM U := by
  obtain ⟨ad, G, a1, a2, a3, a5⟩ := h
  subst hU
  exact ⟨ad, G, a1, a2, a3, hK, a5⟩
theorem GP_blind {D : va_G} {t : Nat → ClassId} {base x0 m0 : Nat} {ZI ZM : St} {av : List Value} : FrameBlind (va_Pc av (GP D t base x0 m0 ZI ZM)) := fun a U g mk q => by
  obtain ⟨q0, ad, G, a1, a2, a3, a4, a5⟩ := q
  exact ⟨q0, ad, G, a1, a2, a3, yK.moved (u := U) (U := U.calling g mk a) (Vm.Alike.refl U.vm) a4, a5⟩
theorem gH_x {D : va_G} {t : Nat → ClassId} {base x0 m0 : Nat} {ZI ZM : St} {s : State} {H : Heap} (hK : yK D t s) (h : gH D t base x0 m0 ZI ZM H) : ∃ cellB : Cell, H[x0]? = some cellB ∧ cellB.vm.isStatics = false ∧ s.vm.findClass RX4 = some cellB.cls := by
  obtain ⟨ad, G, rfl, a2, a3, a5⟩ := h
  obtain ⟨nr, nn, S, T⟩ := ZI
  obtain ⟨hP, -⟩ := gw_cut a5 [((0, 0, 0), _)] (all1 e_0) (by simp)
  exact va_recv hK.1 hP (ci := 4) (q0 := 0) rfl rfl
theorem gH_m {D : va_G} {t : Nat → ClassId} {base x0 m0 : Nat} {ZI ZM : St} {s : State} {H : Heap} (hK : yK D t s) (h : gH D t base x0 m0 ZI ZM H) : ∃ cellB : Cell, H[m0]? = some cellB ∧ cellB.vm.isStatics = false ∧ s.vm.findClass RX5 = some cellB.cls := by
  obtain ⟨ad, G, a1, rfl, a3, a5⟩ := h
  obtain ⟨hP, -⟩ := gw_cut a5 [((7, 0, 0), oM ad ZM.1 ZM.2.1)] (all1 rfl) (by simp)
  exact va_recv hK.1 hP (ci := 5) (q0 := 0) rfl rfl
section LW
variable {p : Program} {l : Launch} {e : Env} {R : Room} {s : State} {m : MethodId} {args : Array Value} {below : List Frame} {meth : Method} {c : Code} {H : Heap} {locs : List Loc} {cells slots : Nat} {Q : State → Prop}
variable {cc : ByteArray} {pc : Nat} {ls : Array Slot} {rest : List Value}
variable {y : MethodName} {bytes : ByteArray} {maxL nL mc ms n index : Nat} {ret : Option FieldType} {wsY : List Cond} {rm : Room} {Ts : List Cond} {own C : String} {b : Addr} {As st0 : List Value} {D : va_G} {t : Nat → ClassId} {H0 : Heap} {base x0 m0 : Nat} {ZI ZM ZI' ZM' : St}
theorem lw_i {ans : Int32} (SF : CallFix p m c cc nL s args Ts own) (hM : Met l y wsY rm (va_Pc (.ref b :: As) (GP D t base x0 m0 ZI ZM)) (va_Qi (fun x (_ : Unit) => x = ans) (fun _ tt => GP D t base x0 m0 ZI' ZM' tt) (fun q => base ≤ q)) mc ms (fun q => base ≤ q))
    (cw : CallW R s args own C index y bytes maxL ret wsY rm mc ms n) (hKK : yK D t s) (hG : gH D t base x0 m0 ZI ZM H) (hrc : ∃ cellB : Cell, H[b]? = some cellB ∧ cellB.vm.isStatics = false ∧ s.vm.findClass C = some cellB.cls) (hS : va_S (fun q => base ≤ q) H0 H locs)
    (hn : As.length = n) (hsize : ls.size = nL) (hst : st0 = As.reverse ++ .ref b :: rest) (hW : (rest.map fun v => v.category).sum ≤ 8) (hdg : decode cc pc = .ok (.invokevirtual index, 3)) (hf : cells + mc ≤ R.cells ∧ slots + ms ≤ R.slots)
    (kk : ∀ (H1 : Heap) (locs1 : List Loc), gH D t base x0 m0 ZI' ZM' H1 → va_S (fun q => base ≤ q) H0 H1 locs1 → W p l e R s m args below meth c H1 locs1 (cells + mc) (slots + ms) Q (F0 m (pc + 3) ls (.int ans :: rest))) : W p l e R s m args below meth c H locs cells slots Q (F0 m pc ls st0) := by
  refine va_calli (va_runV (As := As) (rest := rest) SF hM cw ⟨GP_blind, hrc, fun U hU hW => ⟨rfl, GP_of hG hU (hKK.moved hW.alike)⟩⟩ rfl hn hsize hst (lv_room hW) hdg hf) hS (fun q _ h => h) (fun q h => h) (fun x u tt H1 locs1 ht hvm hw hB hz1 hk1 hS1 => ?_)
  subst hw
  subst ht
  exact kk _ locs1 (gH_of hB) hS1
theorem lw_l {ans : Int64} (SF : CallFix p m c cc nL s args Ts own) (hM : Met l y wsY rm (va_Pc (.ref b :: As) (GP D t base x0 m0 ZI ZM)) (va_Ql (fun x (_ : Unit) => x = ans) (fun _ tt => GP D t base x0 m0 ZI' ZM' tt) (fun q => base ≤ q)) mc ms (fun q => base ≤ q))
    (cw : CallW R s args own C index y bytes maxL ret wsY rm mc ms n) (hKK : yK D t s) (hG : gH D t base x0 m0 ZI ZM H) (hrc : ∃ cellB : Cell, H[b]? = some cellB ∧ cellB.vm.isStatics = false ∧ s.vm.findClass C = some cellB.cls) (hS : va_S (fun q => base ≤ q) H0 H locs)
    (hn : As.length = n) (hsize : ls.size = nL) (hst : st0 = As.reverse ++ .ref b :: rest) (hW : (rest.map fun v => v.category).sum ≤ 8) (hdg : decode cc pc = .ok (.invokevirtual index, 3)) (hf : cells + mc ≤ R.cells ∧ slots + ms ≤ R.slots)
    (kk : ∀ (H1 : Heap) (locs1 : List Loc), gH D t base x0 m0 ZI' ZM' H1 → va_S (fun q => base ≤ q) H0 H1 locs1 → W p l e R s m args below meth c H1 locs1 (cells + mc) (slots + ms) Q (F0 m (pc + 3) ls (.long ans :: rest))) : W p l e R s m args below meth c H locs cells slots Q (F0 m pc ls st0) := by
  refine va_calll (va_runV (As := As) (rest := rest) SF hM cw ⟨GP_blind, hrc, fun U hU hW => ⟨rfl, GP_of hG hU (hKK.moved hW.alike)⟩⟩ rfl hn hsize hst (lv_room hW) hdg hf) hS (fun q _ h => h) (fun q h => h) (fun x u tt H1 locs1 ht hvm hw hB hz1 hk1 hS1 => ?_)
  subst hw
  subst ht
  exact kk _ locs1 (gH_of hB) hS1
theorem lw_d {ans : UInt64} {d0 : Drawn} (hd0 : s.drawn.sameBut d0 lw_cs) (SF : CallFix p m c cc nL (s.setDrawn d0) args Ts own) (hM : MetD lw_cs l y wsY rm (va_Pc (.ref b :: As) (GP D t base x0 m0 ZI ZM)) (va_Qd (fun x (_ : Unit) => alike64 x ans = true) (fun _ tt => GP D t base x0 m0 ZI' ZM' tt) (fun q => base ≤ q)) mc ms (fun q => base ≤ q))
    (cw : CallW R (s.setDrawn d0) args own C index y bytes maxL ret wsY rm mc ms n) (hKK : yK D t s) (hG : gH D t base x0 m0 ZI ZM H) (hrc : ∃ cellB : Cell, H[b]? = some cellB ∧ cellB.vm.isStatics = false ∧ s.vm.findClass C = some cellB.cls) (hS : va_S (fun q => base ≤ q) H0 H locs)
    (hn : As.length = n) (hsize : ls.size = nL) (hst : st0 = As.reverse ++ .ref b :: rest) (hW : (rest.map fun v => v.category).sum ≤ 8) (hdg : decode cc pc = .ok (.invokevirtual index, 3)) (hf : cells + mc ≤ R.cells ∧ slots + ms ≤ R.slots)
    (kk : ∀ (x : UInt64) (H1 : Heap) (locs1 : List Loc) (d1 : Drawn), s.drawn.sameBut d1 lw_cs → alike64 x ans = true → gH D t base x0 m0 ZI' ZM' H1 → va_S (fun q => base ≤ q) H0 H1 locs1 → W p l e R (s.setDrawn d1) m args below meth c H1 locs1 (cells + mc) (slots + ms) Q (F0 m (pc + 3) ls (.double x :: rest))) : W p l e R (s.setDrawn d0) m args below meth c H locs cells slots Q (F0 m pc ls st0) := by
  refine va_calldD hd0 (va_runV_D (As := As) (rest := rest) SF hM cw ⟨GP_blind, hrc, fun U hU hW => ⟨rfl, GP_of hG hU (yK.moved (u := s.setDrawn d0) hW.alike hKK)⟩⟩ rfl hn hsize hst (lv_room hW) hdg hf) hS (fun q _ h => h) (fun q h => h) (fun x u tt H1 locs1 ht hvm hw hB hz1 hk1 hS1 d1 hd1 => ?_)
  subst ht
  exact kk x _ locs1 d1 hd1 hw (gH_of hB) hS1
theorem y_sld {A : Nat → Prop} (hexec : p.tables.exec = Jvm.exec) (hb : c.code = cc) {b L : Nat} {xs : Nat → Int32} (hX : va_X b L xs s H0) (hbl : b < H0.size) (hbA : ¬ A b) (hS : va_S A H0 H locs) {j : Nat} (hj : j < L) (hL : L < 2 ^ 31) (hdg : decode cc pc = .ok (.iaload, 1))
    (kk : W p l e R s m args below meth c H locs cells slots Q (F0 m (pc + 1) ls (.int (xs j) :: rest))) : W p l e R s m args below meth c H locs cells slots Q (F0 m pc ls (.int (nI j) :: .ref b :: rest)) :=
  va_sld hexec hb hX hbl hbA hS (vp_in_nI hj hL) hdg (by rw [nI_clamp (Nat.lt_trans hj hL)]; exact kk)
end LW
theorem yd_8 (x : Int32) : vf_n64 (FP.dmul (FP.i2d x) 4593671619917905920) := by
  have hf : FP.Core.DFin 4593671619917905920 := (FP.Core.fin_bits _).mpr (by decide)
  rw [yd_n, FP.dmul_core, FP.i2d_core]
  exact FP.Core.dmul_out (FP.Core.i2d_fin x) hf
theorem y_exit {L i : Nat} (hL : L ≤ 3072) (hi : i ≤ L) : nI L - 6 < nI i ↔ ¬ i + 6 ≤ L := by
  have e : (nI L - 6 : Int32) = nI L - nI 6 := rfl
  rw [e, Int32.lt_iff_toInt_lt, pk_sub_toInt (by omega) (by omega), nI_toInt (by omega)]
  omega
/-- the array classes, by the tables -/
theorem y_cls {args : Array Value} {s : State} {ty : FieldType} (hty : ty = .int ∨ ty = .boolean ∨ ty = .double) (h : (Cond.arrayClass ty).before args s = true) : ∃ cA : ClassId, ArrOfT s cA ty ∧ va_RA s cA ty := by
  obtain ⟨c, k, comp, h1, h2, h3⟩ := Cond.arrayClass_spec h
  refine ⟨c, ?_, ?_⟩
  · rcases hty with rfl | rfl | rfl <;> exact fun n z => ⟨fun k h => (by cases h), k, h2, comp, h3⟩
  · rcases hty with rfl | rfl | rfl <;> exact h1
theorem y_clsO {args : Array Value} {s : State} {C : String} (h : (Cond.arrayOver (.object C)).before args s = true) : ∃ cA : ClassId, ArrOfT s cA (.object C) ∧ va_RA s cA (.object C) := by
  obtain ⟨comp, c, k, h1, -, h3, h4, h5⟩ := Cond.arrayOver_spec h
  exact ⟨c, fun n z => ⟨fun k h => (by cases h), k, h3, comp, h4⟩, k, comp, h3, h4, h1, h5⟩
/-- the first world -/
abbrev Z0 : St := (0, 0, fun _ _ => 0, fun _ _ => 0)
theorem inv_0 : Inv Z0 := by
  refine ⟨⟨Nat.zero_le _, Nat.zero_le _⟩, fun r hr => absurd hr (Nat.not_lt_zero _), fun r _ _ => ⟨rfl, rfl⟩, fun j hj => absurd hj (Nat.not_lt_zero _), fun j _ _ => ⟨⟨rfl, rfl, rfl, rfl, rfl, rfl⟩, ⟨rfl, rfl, rfl, rfl⟩, fun k _ => ⟨rfl, rfl⟩⟩⟩
