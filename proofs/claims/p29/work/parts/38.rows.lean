theorem six {j : Nat} (h : j < 6) : j = 0 ∨ j = 1 ∨ j = 2 ∨ j = 3 ∨ j = 4 ∨ j = 5 := by omega
def upF {α : Type} (F : Nat → α) (j : Nat) (x : α) : Nat → α := fun a => if a = j then x else F a
theorem up_some (g : Nat → Nat) (j q : Nat) : va_up (fun i => some (g i)) j (some q) = fun i => some (upF g j q i) := by
  funext i
  by_cases h : i = j
  · simp [va_up, upF, h]
  · simp [va_up, upF, h]
theorem hsz_up {f : Nat → Int32} {n : Nat → Nat} {j m : Nat} {x : Int32} (h : ∀ y : Nat, (f y).toInt ≤ ((n y : Nat) : Int)) (hx : x.toInt ≤ ((m : Nat) : Int)) : ∀ y : Nat, (upd f j x y).toInt ≤ ((upF n j m y : Nat) : Int) := fun y => by
  show (if y = j then x else f y).toInt ≤ ((if y = j then m else n y : Nat) : Int)
  split
  · exact hx
  · exact h y
theorem and_rng2 {a b z : Int32} (e : z = a &&& b) (b0 : 0 ≤ b.toInt) : 0 ≤ z.toInt ∧ z.toInt ≤ b.toInt := by
  have hb := ci_nat b0
  have h : z.toBitVec.toNat = a.toBitVec.toNat &&& b.toBitVec.toNat := by
    rw [e]
    exact BitVec.toNat_and _ _
  have h2 : a.toBitVec.toNat &&& b.toBitVec.toNat ≤ b.toBitVec.toNat := Nat.and_le_right
  have hr := ci_rng b
  have h3 := ci_ofnat (x := z) (by omega)
  omega
theorem cls_B {D : va_G} {κ : Nat → ClassId} {s : State} {cA : ClassId} (h : va_K D vwCl (TY κ ++ [(cA, .byte)]) s) : cA = κ 0 := by
  have e1 : s.vm.findClass ("[" ++ FieldType.byte.toString) = some cA := (h.2 6 (cA, .byte) rfl).2
  have e2 : s.vm.findClass ("[" ++ FieldType.byte.toString) = some (κ 0) := (h.2 0 (κ 0, .byte) rfl).2
  exact Option.some.inj (e1.symm.trans e2)
theorem cls_I {D : va_G} {κ : Nat → ClassId} {s : State} {cA : ClassId} (h : va_K D vwCl (TY κ ++ [(cA, .int)]) s) : cA = κ 1 := by
  have e1 : s.vm.findClass ("[" ++ FieldType.int.toString) = some cA := (h.2 6 (cA, .int) rfl).2
  have e2 : s.vm.findClass ("[" ++ FieldType.int.toString) = some (κ 1) := (h.2 1 (κ 1, .int) rfl).2
  exact Option.some.inj (e1.symm.trans e2)
theorem cls_J {D : va_G} {κ : Nat → ClassId} {s : State} {cA : ClassId} (h : va_K D vwCl (TY κ ++ [(cA, .long)]) s) : cA = κ 2 := by
  have e1 : s.vm.findClass ("[" ++ FieldType.long.toString) = some cA := (h.2 6 (cA, .long) rfl).2
  have e2 : s.vm.findClass ("[" ++ FieldType.long.toString) = some (κ 2) := (h.2 2 (κ 2, .long) rfl).2
  exact Option.some.inj (e1.symm.trans e2)
theorem cls_Z {D : va_G} {κ : Nat → ClassId} {s : State} {cA : ClassId} (h : va_K D vwCl (TY κ ++ [(cA, .boolean)]) s) : cA = κ 3 := by
  have e1 : s.vm.findClass ("[" ++ FieldType.boolean.toString) = some cA := (h.2 6 (cA, .boolean) rfl).2
  have e2 : s.vm.findClass ("[" ++ FieldType.boolean.toString) = some (κ 3) := (h.2 3 (κ 3, .boolean) rfl).2
  exact Option.some.inj (e1.symm.trans e2)
section RW1
variable {p : Program} {l : Launch} {e : Env} {R : Room} {s : State} {m : MethodId} {args : Array Value} {below : List Frame} {meth : Method} {c : Code} {H : Heap} {locs : List Loc} {cells slots : Nat} {Q : State → Prop}
variable {cc : ByteArray} {pc : Nat} {ls : Array Slot} {rest : List Value} {D : va_G} {cl : List vw_C} {A : Nat → Prop} {a : Nat} {tys : List (ClassId × FieldType)} {ws : va_W} {H0 : Heap}
/-- a row of a two-dimensional array, all of whose rows are there -/
theorem va_aldG {ty : FieldType} (hty : ty.isReference = true) (hexec : p.tables.exec = Jvm.exec) (hb : c.code = cc) (hK : va_K D cl tys s) (hP : va_P D cl ws H) (q0 t0 : Nat) {cA : ClassId} {n : Nat} {g : Nat → Nat} (ha : ws[q0]? = some (a, .inl (cA, n, .inr (.inr (.inr (.inr (fun i => some (g i)))))))) (ht : tys[t0]? = some (cA, ty)) {i : Int32} {j : Nat} (hj : i.toNatClampNeg = j) (hin : vp_in i n) (hdg : decode cc pc = .ok (.aaload, 1))
    (kk : W p l e R s m args below meth c H locs cells slots Q (F0 m (pc + 1) ls (.ref (g j) :: rest))) : W p l e R s m args below meth c H locs cells slots Q (F0 m pc ls (.int i :: .ref a :: rest)) := by
  have hlt : i.toNatClampNeg < n := Nat.not_le.mp fun q => hin (Or.inr q)
  subst hj
  exact W.aald (v := .ref (g i.toNatClampNeg)) (ty := ty) hexec hb (hP q0 _ ha) ((hK.2 t0 _ ht).1 n (fun j => va_rf (some (g j)))) hty (fun q => by cases q) (by show ¬ (i < 0 ∨ (arrV _ _ _).slots.size ≤ _); rw [arrV_size]; exact hin) (by show (arrV _ _ _).slots[_]? = _; rw [arrV_read _ _ hlt]; rfl) rfl rfl hdg kk
/-- an int array goes into an array of int arrays -/
theorem va_astR {c1 : ClassId} (hexec : p.tables.exec = Jvm.exec) (hb : c.code = cc) (hK : va_K D cl tys s) (hP : va_P D cl ws H) (hD : va_D A ws) (hS : va_S A H0 H locs) (q0 t1 qk : Nat) {cA : ClassId} {n nv v : Nat} {fv : Nat → Int32} {f : Nat → Option Nat} (hk2 : ∃ kA : Class, s.vm.classes[cA]? = some kA ∧ kA.kind = .array c1 (.array .int)) (ha : ws[q0]? = some (a, .inl (cA, n, .inr (.inr (.inr (.inr f)))))) (ht : tys[t1]? = some (c1, .int)) (hv : ws[qk]? = some (v, .inl (c1, nv, .inl fv))) {i : Int32} (hin : vp_in i n) (hdg : decode cc pc = .ok (.aastore, 1))
    (kk : ∀ (H1 : Heap) (locs1 : List Loc), va_P D cl (ws.set q0 (a, .inl (cA, n, .inr (.inr (.inr (.inr (va_up f i.toNatClampNeg (some v)))))))) H1 → va_D A (ws.set q0 (a, .inl (cA, n, .inr (.inr (.inr (.inr (va_up f i.toNatClampNeg (some v)))))))) → va_S A H0 H1 locs1 → W p l e R s m args below meth c H1 locs1 cells slots Q (F0 m (pc + 1) ls rest)) : W p l e R s m args below meth c H locs cells slots Q (F0 m pc ls (.ref v :: .int i :: .ref a :: rest)) := by
  have hlt : i.toNatClampNeg < n := Nat.not_le.mp fun q => hin (Or.inr q)
  have h0 : ¬ i < 0 := fun q => hin (Or.inl q)
  obtain ⟨kA, k1, k2⟩ := hk2
  have g1 : H[v]? = some (vp_cell c1 (nv, .inl fv)) := hP qk _ hv
  obtain ⟨-, kC, hkC, -⟩ := (hK.2 t1 _ ht).1 0 (fun _ => .null)
  refine W.aast hexec hb (hP q0 _ ha) (fun q h => by cases h) (fun h => by cases h) k1 k2 rfl hkC ⟨h0, by show _ < (arrV _ _ _).slots.size; rw [arrV_size]; exact hlt⟩ g1 (fun q h => by cases h) hkC (va_asg _ _) rfl rfl hdg fun H1 e z oq => ?_
  refine kk H1 _ (hP.set hD ha ?_ oq) (hD.set ha) (hS.put z oq (hD.2 q0 _ ha))
  show H1[a]? = some (vp_cell _ _)
  rw [e]
  rw [vp_cell_q, vp_cell_q, arrV_store]
  congr 2
  funext q
  by_cases hq : q = i.toNatClampNeg
  · subst hq
    simp [updV, va_up, va_rf]
  · simp [updV, va_up, hq]
end RW1
/-! the one text: what its methods ask -/
def TXT (β k v : Nat) (U : State) : Prop := vk_S 1 [8] [tbText] (fun _ => k) (fun _ => v) (fun q => β ≤ q) U U.heap
theorem TXT.at {β k v : Nat} {s U : State} {H : Heap} {A : Nat → Prop} {locs : List Loc} (h : TXT β k v s) (hW : s.WarmedH U.vm) (hU : U.heap = H) (hS : va_S A s.heap H locs) (hAB : ∀ q, A q → β ≤ q) : TXT β k v U := by
  subst hU
  have hk : ∀ a : Nat, a < s.heap.size → ¬ β ≤ a → U.heap[a]? = s.heap[a]? := fun a h1 h2 => hS.2.1 a h1 (fun q => h2 (hAB a q))
  exact (vk_S.moved hW.alike h).kept hk
theorem TXT.calling {β k v : Nat} {U : State} {a : Array Value} {g : JFrame} {mk : MethodId} (h : TXT β k v U) : TXT β k v (U.calling g mk a) := by
  have hv : U.vm.Alike (U.calling g mk a).vm := Vm.Alike.refl U.vm
  exact vk_S.moved hv h
def PcX (D : va_G) (κ : Nat → ClassId) (β k v sz : Nat) (av : List Value) : Array Value → State → Prop := va_Pc av (fun U => U.heap.size = sz ∧ KK D κ β U ∧ TXT β k v U)
theorem PcX.blind {D : va_G} {κ : Nat → ClassId} {β k v sz : Nat} {av : List Value} : FrameBlind (PcX D κ β k v sz av) := fun a U g mk h => by
  obtain ⟨h0, h1, h2, h3⟩ := h
  exact ⟨h0, h1, h2.calling, h3.calling⟩
theorem ofX {l : Launch} {y : MethodName} {wsY ws' : List Cond} {rm : Room} {D : va_G} {κ : Nat → ClassId} {β k v sz : Nat} {av : List Value} {post : Int32 → Unit → Prop} {cc : ByteArray} {maxL : Nat} {own : String} {ty : FieldType}
    (hnr : ∀ r u, post r u → narrow ty (.int r) = .int r) (hy : plainName y.cls = true) (hown : y.cls = own) (hw : wsY = Cond.code y cc maxL (some ty) :: ws') (hsl : (lg_sl av).length ≤ maxL)
    (body : ∀ (p : Program) (e : Env) (s : State) (m : MethodId) (args : Array Value) (below : List Frame) (meth : Method) (c : Code) (Q : State → Prop) (A : Nat → Prop) (ls : Array Slot), s.heap.size = sz →
      p.tables.exec = Jvm.exec → c.code = cc → c.maxLocals = maxL → (∀ w ∈ wsY, w.before args s = true) → s.vm.findClass own = some m.cls → KK D κ β s → (∀ q, s.heap.size ≤ q → A q) → (∀ q, A q → β ≤ q) → TXT β k v s → va_P D vwCl [] s.heap → va_D A [] → lv_has ls maxL (lv_args 0 av) →
      (∀ (H : Heap) (locs : List Loc) (ls : Array Slot) (pc : Nat) (r : Int32) (u : Unit), decode cc pc = .ok (.ireturn, 1) → post r u → va_P D vwCl [] H → va_D A [] → va_S A s.heap H locs → W p l e rm s m args below meth c H locs 0 0 Q (F0 m pc ls [.int r])) →
      W p l e rm s m args below meth c s.heap [] 0 0 Q (F0 m 0 ls [])) :
    Met l y wsY rm (PcX D κ β k v sz av) (QiK D post (fun _ : Unit => []) [] sz) 0 0 (va_A [] sz) := by
  refine Met.ofW (cc := cc) (maxL := maxL) (ret := some ty) hy hw ?_
  intro p e s m args below meth c s₁ B hml hv
  obtain ⟨rfl, hsz, hK, hT⟩ := hv
  subst hsz
  have hD0 : va_D (fun q => β ≤ q) [] := ⟨fun i j p q h => by simp at h, fun k q h => by simp at h⟩
  have hP : va_P D vwCl [] s.heap := fun k q h => by simp at h
  rw [lg_entry_eq]
  refine body p e s m _ below meth c _ (va_A [] s.heap.size) _ rfl B.exec B.bytes hml (atoms_spec (ws := wsY) B.pre) (by rw [← hown]; exact findClass_of_methodNamed B.named) hK (fun q h => Or.inr h) (fun q h => h.elim (fun ⟨k, e, hk⟩ => hD0.2 k _ hk) (fun h => Nat.le_trans hK.2.2.2.1 h)) hT hP (hD0.self (sz := s.heap.size)) (lv_entry av (n := maxL) hsl) ?_
  intro H locs ls pc r u hdg hpo hP1 hD1 hS
  exact W.zret (v := r) B.exec B.bytes B.returns (hnr r u hpo) (fun t ht hW => ⟨⟨r, u, rfl, hpo, by rw [ht]; exact hP1, hD1⟩, hS.F ht⟩) hS.2.2 hdg
theorem pk_XV {D : va_G} {κ : Nat → ClassId} {β k v : Nat} {s : State} {H : Heap} {A : Nat → Prop} {locs : List Loc} {As : List Value} (hK : KK D κ β s) (hS : va_S A s.heap H locs) (hAB : ∀ q, A q → β ≤ q) (hT : TXT β k v s) : PreV s H RJ0 k (PcX D κ β k v H.size (.ref k :: As)) As :=
  ⟨PcX.blind, vk_recv (vk_S.narrow hT hAB) Nat.zero_lt_one hS, fun U hU hW => ⟨rfl, by rw [hU], hK.at hW hU hS hAB, hT.at hW hU hS hAB⟩⟩
theorem pk_XS {D : va_G} {κ : Nat → ClassId} {β k v : Nat} {s : State} {H : Heap} {A : Nat → Prop} {locs : List Loc} {As : List Value} (hK : KK D κ β s) (hS : va_S A s.heap H locs) (hAB : ∀ q, A q → β ≤ q) (hT : TXT β k v s) : PreS s H (PcX D κ β k v H.size As) As :=
  ⟨PcX.blind, fun U hU hW => ⟨rfl, by rw [hU], hK.at hW hU hS hAB, hT.at hW hU hS hAB⟩⟩
theorem nar_b0 {r : Int32} (h : r.toInt = 0) : narrow .byte (.int r) = .int r := by
  have e : r = 0 := ci_inj (by rw [h]; rfl)
  subst e; decide
theorem sh_eight {x : Int32} (h : x.toInt = 0) : ((8 : Int32) >>> (x &&& 31)).toInt = 8 := by
  have e : x = 0 := ci_inj (by rw [h]; rfl)
  subst e; decide
def QrK {S : Type} (D : va_G) (post : S → Prop) (W1 : S → Nat → va_W) (ws : va_W) (sz : Nat) : Array Value → State → Outcome → State → Prop := va_Qr post (fun u a t => va_P D vwCl (W1 u a) t.heap ∧ va_D (va_A ws sz) (W1 u a)) (va_A ws sz)
theorem ofK_r {S : Type} {l : Launch} {y : MethodName} {wsY ws' : List Cond} {rm : Room} {D : va_G} {κ : Nat → ClassId} {β : Nat} {ws : va_W} {sz : Nat} {av : List Value} {post : S → Prop} {W1 : S → Nat → va_W} {mc ms : Nat} {cc : ByteArray} {maxL : Nat} {own : String} {ty : FieldType}
    (hy : plainName y.cls = true) (hown : y.cls = own) (hw : wsY = Cond.code y cc maxL (some (.array ty)) :: ws') (hsl : (lg_sl av).length ≤ maxL)
    (body : ∀ (p : Program) (e : Env) (s : State) (m : MethodId) (args : Array Value) (below : List Frame) (meth : Method) (c : Code) (Q : State → Prop) (A : Nat → Prop) (ls : Array Slot), s.heap.size = sz →
      p.tables.exec = Jvm.exec → c.code = cc → c.maxLocals = maxL → (∀ w ∈ wsY, w.before args s = true) → s.vm.findClass own = some m.cls → KK D κ β s → (∀ q, s.heap.size ≤ q → A q) → (∀ q, A q → β ≤ q) → va_P D vwCl ws s.heap → va_D A ws → lv_has ls maxL (lv_args 0 av) →
      (∀ (H : Heap) (locs : List Loc) (ls : Array Slot) (pc : Nat) (r : Nat) (u : S), decode cc pc = .ok (.areturn, 1) → post u → va_P D vwCl (W1 u r) H → va_D A (W1 u r) → va_S A s.heap H locs → W p l e rm s m args below meth c H locs mc ms Q (F0 m pc ls [.ref r])) →
      W p l e rm s m args below meth c s.heap [] 0 0 Q (F0 m 0 ls [])) :
    Met l y wsY rm (PcK D κ β ws sz av) (QrK D post W1 ws sz) mc ms (va_A ws sz) := by
  refine Met.ofW (cc := cc) (maxL := maxL) (ret := some (.array ty)) hy hw ?_
  intro p e s m args below meth c s₁ B hml hv
  obtain ⟨rfl, hsz, hP, hK, hD0⟩ := hv
  subst hsz
  rw [lg_entry_eq]
  refine body p e s m _ below meth c _ (va_A ws s.heap.size) _ rfl B.exec B.bytes hml (atoms_spec (ws := wsY) B.pre) (by rw [← hown]; exact findClass_of_methodNamed B.named) hK (fun q h => Or.inr h) (fun q h => h.elim (fun ⟨k, e, hk⟩ => hD0.2 k _ hk) (fun h => Nat.le_trans hK.2.2.2.1 h)) hP (hD0.self (sz := s.heap.size)) (lv_entry av (n := maxL) hsl) ?_
  intro H locs ls pc r u hdg hpo hP1 hD1 hS
  exact W.aret (v := .ref r) B.exec B.bytes B.returns (Or.inr ⟨_, rfl⟩) (Or.inr ⟨_, rfl⟩) (fun t ht hW => ⟨⟨u, r, rfl, hpo, by rw [ht]; exact hP1, hD1⟩, hS.F ht⟩) hS.2.2 hdg
section KCR
variable {p : Program} {l : Launch} {e : Env} {R : Room} {s : State} {m : MethodId} {args : Array Value} {below : List Frame} {meth : Method} {c : Code} {H : Heap} {locs : List Loc} {cells slots : Nat} {Q : State → Prop}
variable {β pc : Nat} {ls : Array Slot} {rest st0 : List Value} {a : Array Value} {A : Nat → Prop} {H0 : Heap} {mc ms : Nat} {D : va_G} {ws wc wr : va_W}
theorem kc_r {S : Type} {post : S → Prop} {W1 : S → Nat → va_W} (hA : ∀ q, H0.size ≤ q → A q) (hAB : ∀ q, A q → β ≤ q) (hP : va_P D vwCl ws H) (hD : va_D A ws) (hS : va_S A H0 H locs) (isC isR : List Nat) (hC : isC.map (fun i => ws[i]?) = wc.map some) (hR : isR.map (fun i => ws[i]?) = wr.map some) (hnC : va_nd isC = true) (hnR : va_nd isR = true) (hdis : ∀ i ∈ isR, i ∉ isC)
    (hr : va_P D vwCl wc H → va_D (fun q => β ≤ q) wc → va_Run p l e R s m args below meth c H locs cells slots mc ms (F0 m pc ls st0) rest (QrK D post W1 wc H.size a) (va_A wc H.size))
    (kk : ∀ (u : S) (ra : Nat) (H1 : Heap) (locs1 : List Loc), post u → va_P D vwCl (wr ++ W1 u ra) H1 → va_D A (wr ++ W1 u ra) → va_S A H0 H1 locs1 → W p l e R s m args below meth c H1 locs1 (cells + mc) (slots + ms) Q (F0 m (pc + 3) ls (.ref ra :: rest))) : W p l e R s m args below meth c H locs cells slots Q (F0 m pc ls st0) := by
  have hPc : va_P D vwCl wc H := hP.sub isC (fm_of_map hC)
  have hDc : va_D (fun q => β ≤ q) wc := (hD.sub isC hnC hC).weaken (fun _ _ _ h => hAB _ h)
  have hFc := va_free hD hS hA isC hC
  refine va_callr (hr hPc hDc) hS (fun q _ h => hFc q h) hFc (fun u ra t H1 locs1 ht hvm hw hB hz1 hk1 hS1 => ?_)
  obtain ⟨hP1, hD1⟩ := hB
  rw [ht] at hP1
  obtain ⟨hP', hD'⟩ := va_join hP hD isC isR hC hR hnR hdis hk1 hFc hP1 hD1
  exact kk u ra H1 locs1 hw hP' hD' hS1
end KCR
theorem fits_b {z : Int32} (h : -128 ≤ z.toInt ∧ z.toInt ≤ 127) : fits .byte (.int z) = true := by
  have h1 : (-128 : Int32) ≤ z := Int32.le_iff_toInt_le.mpr (by rw [show (-128 : Int32).toInt = -128 from by decide]; exact h.1)
  have h2 : z ≤ (127 : Int32) := Int32.le_iff_toInt_le.mpr (by rw [show (127 : Int32).toInt = 127 from by decide]; exact h.2)
  simp [fits, h1, h2]
theorem nar_byte (x : Int32) : -128 ≤ (vp_nar .byte x).toInt ∧ (vp_nar .byte x).toInt ≤ 127 := by
  have e : vp_nar .byte x = x.toInt8.toInt32 := rfl
  rw [e, Int8.toInt_toInt32]
  have h1 := x.toInt8.le_toInt
  have h2 := x.toInt8.toInt_lt
  omega
