theorem AOA_spec {ty : FieldType} {s : State} (h : va_AOA ty s) :
    ∃ comp c k, s.vm.findClass (FieldType.array ty).toString = some comp ∧ (s.vm.classes.findIdx? fun x => match x.kind with | .array component _ => component == comp | _ => false) = some c ∧ s.vm.classes[c]? = some k ∧ k.kind = .array comp (.array ty) ∧
      s.vm.findClass ("[" ++ (FieldType.array ty).toString) = some c := by
  unfold va_AOA Cond.before at h
  simp only [Cond.holds, Cond.value, beq_iff_eq] at h
  cases hc : s.vm.findClass (FieldType.array ty).toString with
  | none => simp [hc] at h
  | some comp =>
    simp only [hc, Option.bind_some, Option.bind_eq_some_iff, Option.map_eq_some_iff] at h
    obtain ⟨c, hi, k, hk, hb⟩ := h
    obtain ⟨hlt, hp, -⟩ := Array.findIdx?_eq_some_iff_getElem.mp hi
    have hkk : s.vm.classes[c] = k := (Array.getElem?_eq_some_iff.mp hk).2
    rw [hkk] at hp
    cases hkind : k.kind with
    | array component ty2 =>
      rw [hkind] at hb hp
      simp at hb hp
      exact ⟨comp, c, k, rfl, hi, hk, by rw [hkind, hp, hb.1], hb.2⟩
    | _ => rw [hkind] at hb; simp at hb
theorem va_AOA.moved {ty : FieldType} {u U : State} (hvm : u.vm.Alike U.vm) (h : va_AOA ty u) : va_AOA ty U := by
  obtain ⟨comp, c, k, h1, h2, h3, h4, h5⟩ := AOA_spec h
  obtain ⟨k', hk', he⟩ := hvm.2.2 _ _ h3
  have hb : U.vm.bare = u.vm.bare := by first | exact hvm.bare_eq.symm | exact hvm.bare_eq
  have e1 := va_idx_bare U.vm comp
  rw [hb] at e1
  have hi : (U.vm.classes.findIdx? fun (x : Class) => match x.kind with | .array component _ => component == comp | _ => false) = some c := e1.symm.trans ((va_idx_bare u.vm comp).trans h2)
  have hkind : k'.kind = .array comp (.array ty) := by rw [he]; exact h4
  have f1 : U.vm.findClass (FieldType.array ty).toString = some comp := by rw [hvm.findClass]; exact h1
  have f2 : U.vm.findClass ("[" ++ (FieldType.array ty).toString) = some c := by rw [hvm.findClass]; exact h5
  unfold va_AOA Cond.before Cond.holds
  simp only [Cond.value]
  rw [f1, Option.bind_some]
  erw [hi]
  rw [Option.bind_some, hk', Option.map_some, hkind]
  simp [f2]
def PcA (D : va_G) (κ : Nat → ClassId) (β : Nat) (ws : va_W) (sz : Nat) (av : List Value) : Array Value → State → Prop := va_Pc av (fun U => U.heap.size = sz ∧ va_P D vwCl ws U.heap ∧ (KK D κ β U ∧ va_AOA .int U ∧ va_AOA .long U) ∧ va_D (fun q => β ≤ q) ws)
theorem PcA.blind {D : va_G} {κ : Nat → ClassId} {β : Nat} {ws : va_W} {sz : Nat} {av : List Value} : FrameBlind (PcA D κ β ws sz av) := fun a U g mk h => by
  obtain ⟨h0, h1, h2, h3, h4⟩ := h
  exact ⟨h0, h1, h2, ⟨h3.1.calling, va_AOA.moved (u := U) (U := U.calling g mk a) (Vm.Alike.refl U.vm) h3.2.1, va_AOA.moved (u := U) (U := U.calling g mk a) (Vm.Alike.refl U.vm) h3.2.2⟩, h4⟩
theorem pk_SA {D : va_G} {κ : Nat → ClassId} {β : Nat} {s : State} {H : Heap} {A : Nat → Prop} {locs : List Loc} {wc : va_W} {As : List Value} (hK : KK D κ β s) (ha1 : va_AOA .int s) (ha2 : va_AOA .long s) (hS : va_S A s.heap H locs) (hAB : ∀ q, A q → β ≤ q) (hP : va_P D vwCl wc H) (hD : va_D (fun q => β ≤ q) wc) : PreS s H (PcA D κ β wc H.size As) As :=
  ⟨PcA.blind, fun U hU hW => ⟨rfl, by rw [hU], by rw [hU]; exact hP, ⟨hK.at hW hU hS hAB, va_AOA.moved hW.alike ha1, va_AOA.moved hW.alike ha2⟩, hD⟩⟩
theorem ofA_v {S : Type} {l : Launch} {y : MethodName} {wsY ws' : List Cond} {rm : Room} {D : va_G} {κ : Nat → ClassId} {β : Nat} {ws : va_W} {sz : Nat} {av : List Value} {post : S → Prop} {W1 : S → va_W} {mc ms : Nat} {cc : ByteArray} {maxL : Nat} {own : String}
    (hy : plainName y.cls = true) (hown : y.cls = own) (hw : wsY = Cond.code y cc maxL none :: ws') (hsl : (lg_sl av).length ≤ maxL)
    (body : ∀ (p : Program) (e : Env) (s : State) (m : MethodId) (args : Array Value) (below : List Frame) (meth : Method) (c : Code) (Q : State → Prop) (A : Nat → Prop) (ls : Array Slot), s.heap.size = sz → va_AOA .int s → va_AOA .long s →
      p.tables.exec = Jvm.exec → c.code = cc → c.maxLocals = maxL → (∀ w ∈ wsY, w.before args s = true) → s.vm.findClass own = some m.cls → KK D κ β s → (∀ q, s.heap.size ≤ q → A q) → (∀ q, A q → β ≤ q) → va_P D vwCl ws s.heap → va_D A ws → lv_has ls maxL (lv_args 0 av) → meth.name = y.name →
      (∀ (H : Heap) (locs : List Loc) (ls : Array Slot) (pc : Nat) (u : S), decode cc pc = .ok (.return_, 1) → post u → va_P D vwCl (W1 u) H → va_D A (W1 u) → va_S A s.heap H locs → W p l e rm s m args below meth c H locs mc ms Q (F0 m pc ls [])) →
      W p l e rm s m args below meth c s.heap [] 0 0 Q (F0 m 0 ls [])) :
    Met l y wsY rm (PcA D κ β ws sz av) (QvK D post W1 ws sz) mc ms (va_A ws sz) := by
  refine Met.ofW (cc := cc) (maxL := maxL) (ret := none) hy hw ?_
  intro p e s m args below meth c s₁ B hml hv
  obtain ⟨rfl, hsz, hP, ⟨hK, ha1, ha2⟩, hD0⟩ := hv
  subst hsz
  rw [lg_entry_eq]
  refine body p e s m _ below meth c _ (va_A ws s.heap.size) _ rfl ha1 ha2 B.exec B.bytes hml (atoms_spec (ws := wsY) B.pre) (by rw [← hown]; exact findClass_of_methodNamed B.named) hK (fun q h => Or.inr h) (fun q h => h.elim (fun ⟨k, e, hk⟩ => hD0.2 k _ hk) (fun h => Nat.le_trans hK.2.2.2.1 h)) hP (hD0.self (sz := s.heap.size)) (lv_entry av (n := maxL) hsl) (name_of_methodNamed B.named B.method).1 ?_
  intro H locs ls pc u hdg hpo hP1 hD1 hS
  exact W.vret B.exec B.bytes B.returns (fun t ht hW => ⟨⟨u, rfl, hpo, by rw [ht]; exact hP1, hD1⟩, hS.F ht⟩) hS.2.2 hdg
theorem mna_l {f : Nat → va_E} {r : Nat → Nat} {e : va_E} : va_pl ([] ++ (List.range 6).map r) (vr_up f ((List.range 6).map r) e) = [(r 0, e), (r 1, e), (r 2, e), (r 3, e), (r 4, e), (r 5, e)] := by
  have h : (List.range 6).map r = [r 0, r 1, r 2, r 3, r 4, r 5] := rfl
  rw [List.nil_append, h]
  simp [va_pl, vr_up]
theorem arrV_ext (c : ClassId) (n : Nat) {F G : Nat → Value} (h : ∀ j, j < n → F j = G j) : arrV c n F = arrV c n G := by
  unfold arrV
  have e : (Array.ofFn (n := n) fun j => F j.val) = Array.ofFn (n := n) fun j => G j.val := congrArg Array.ofFn (funext fun j => h j.val j.isLt)
  rw [e]
theorem outer_eq (c : ClassId) (r : Nat → Nat) : vp_cell c (6, .inr (.inr (.inr (.inr (fun i => if i < 6 then some (r i) else none))))) = vp_cell c (6, .inr (.inr (.inr (.inr (fun i => some (r i)))))) := by
  rw [vp_cell_q, vp_cell_q]
  exact arrV_ext c 6 (fun j hj => by rw [if_pos hj])
theorem va_P_eqv {D : va_G} {cl : List vw_C} {ws : va_W} {H : Heap} {a k : Nat} {e e' : va_E} (h : va_P D cl ws H) (hk : ws[k]? = some (a, e)) (hh : va_at D cl (a, e) H → va_at D cl (a, e') H) : va_P D cl (ws.set k (a, e')) H := by
  intro j q hj
  by_cases hjk : k = j
  · subst hjk
    have hl : k < ws.length := (List.getElem?_eq_some_iff.mp hk).1
    rw [List.getElem?_set_self hl] at hj
    cases hj
    exact hh (h _ _ hk)
  · rw [List.getElem?_set_ne hjk] at hj
    exact h _ _ hj
theorem outer_at {D : va_G} {cl : List vw_C} {H : Heap} {q : Nat} {c : ClassId} {r : Nat → Nat} (h : va_at D cl (q, .inl (c, 6, .inr (.inr (.inr (.inr (fun i => if i < 6 then some (r i) else none)))))) H) : va_at D cl (q, .inl (c, 6, .inr (.inr (.inr (.inr (fun i => some (r i))))))) H := by
  have h1 : H[q]? = some (vp_cell c (6, .inr (.inr (.inr (.inr (fun i => if i < 6 then some (r i) else none)))))) := h
  show H[q]? = some (vp_cell c _)
  rw [h1, outer_eq]
theorem cls_RI {D : va_G} {κ : Nat → ClassId} {s : State} {cA : ClassId} (h : va_K D vwCl (TY κ ++ [(cA, .array .int)]) s) : cA = κ 4 := by
  have e1 : s.vm.findClass ("[" ++ (FieldType.array .int).toString) = some cA := (h.2 6 (cA, .array .int) rfl).2
  have e2 : s.vm.findClass ("[" ++ (FieldType.array .int).toString) = some (κ 4) := (h.2 4 (κ 4, .array .int) rfl).2
  exact Option.some.inj (e1.symm.trans e2)
theorem cls_RJ {D : va_G} {κ : Nat → ClassId} {s : State} {cA : ClassId} (h : va_K D vwCl (TY κ ++ [(cA, .array .long)]) s) : cA = κ 5 := by
  have e1 : s.vm.findClass ("[" ++ (FieldType.array .long).toString) = some cA := (h.2 6 (cA, .array .long) rfl).2
  have e2 : s.vm.findClass ("[" ++ (FieldType.array .long).toString) = some (κ 5) := (h.2 5 (κ 5, .array .long) rfl).2
  exact Option.some.inj (e1.symm.trans e2)
theorem in_int0 (c : ClassId) : Jvm.Free.Multi.innerC c 0 (defaultValue .int) = vp_cell c (0, .inl (fun _ => 0)) := rfl
theorem in_long60 (c : ClassId) : Jvm.Free.Multi.innerC c 60 (defaultValue .long) = vp_cell c (60, .inr (.inl (fun _ => 0))) := rfl
theorem lnk_I : ("[" ++ (FieldType.array (.int)).toString) = "[[I" := by decide +kernel
theorem lnk_J : ("[" ++ (FieldType.array (.long)).toString) = "[[J" := by decide +kernel
