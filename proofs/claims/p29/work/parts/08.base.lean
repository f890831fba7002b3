/-! plain numbers -/
theorem ci_le {a b : Int32} (h : a ≤ b) : a.toInt ≤ b.toInt := Int32.le_iff_toInt_le.mp h
theorem ci_nle {a b : Int32} (h : ¬ a ≤ b) : b.toInt < a.toInt := by
  rw [Int32.le_iff_toInt_le] at h; omega
theorem ci_lt {a b : Int32} (h : a < b) : a.toInt < b.toInt := Int32.lt_iff_toInt_lt.mp h
theorem ci_nlt {a b : Int32} (h : ¬ a < b) : b.toInt ≤ a.toInt := by
  rw [Int32.lt_iff_toInt_lt] at h; omega
theorem ci_eq {a b : Int32} (h : a = b) : a.toInt = b.toInt := by rw [h]
theorem ci_ne {a b : Int32} (h : ¬ a = b) : a.toInt ≠ b.toInt := fun q => h (Int32.toInt_inj.mp q)
theorem ci_inj {a b : Int32} (h : a.toInt = b.toInt) : a = b := Int32.toInt_inj.mp h
theorem ci_rng (x : Int32) : -2147483648 ≤ x.toInt ∧ x.toInt < 2147483648 := by
  have h1 := Int32.le_toInt x
  have h2 := Int32.toInt_lt x
  omega
theorem ci_bmod {z : Int} (h1 : -2147483648 ≤ z) (h2 : z < 2147483648) : z.bmod (2 ^ 32) = z := by
  rw [Int.bmod_def]
  omega
theorem ci_add {x y z : Int32} (e : z = x + y) (h1 : -2147483648 ≤ x.toInt + y.toInt) (h2 : x.toInt + y.toInt < 2147483648) : z.toInt = x.toInt + y.toInt := by
  rw [e, Int32.toInt_add]; exact ci_bmod h1 h2
theorem ci_sub {x y z : Int32} (e : z = x - y) (h1 : -2147483648 ≤ x.toInt - y.toInt) (h2 : x.toInt - y.toInt < 2147483648) : z.toInt = x.toInt - y.toInt := by
  rw [e, Int32.toInt_sub]; exact ci_bmod h1 h2
theorem ci_mulL {x y z : Int32} {n : Int} (hy : x.toInt = n) (e : z = x * y) (h1 : -2147483648 ≤ n * y.toInt) (h2 : n * y.toInt < 2147483648) : z.toInt = n * y.toInt := by
  rw [e, Int32.toInt_mul, hy]; exact ci_bmod h1 h2
theorem ci_mulR {x y z : Int32} {n : Int} (hy : y.toInt = n) (e : z = x * y) (h1 : -2147483648 ≤ n * x.toInt) (h2 : n * x.toInt < 2147483648) : z.toInt = n * x.toInt := by
  rw [e, Int32.toInt_mul, hy, Int.mul_comm]; exact ci_bmod h1 h2
theorem ci_neg {x z : Int32} (e : z = -x) (h : x.toInt ≠ -2147483648) : z.toInt = -x.toInt := by
  rw [e, Int32.toInt_neg]
  have := ci_rng x
  exact ci_bmod (by omega) (by omega)
theorem ci_clamp {i : Int32} (h : 0 ≤ i.toInt) : (i.toNatClampNeg : Int) = i.toInt := by
  show ((i.toInt.toNat : Nat) : Int) = i.toInt
  omega
theorem ix {i : Int32} {n : Nat} (h0 : 0 ≤ i.toInt) (h1 : i.toInt < n) : vp_in i n := vp_in_iff.mpr ⟨h0, h1⟩
theorem all_upd {P : Int32 → Prop} {f : Nat → Int32} {k : Nat} {x : Int32} (h : ∀ j, P (f j)) (hx : P x) : ∀ j, P (upd f k x j) := fun j => by
  show P (if j = k then x else f j)
  split
  · exact hx
  · exact h j
theorem all_cpy {α : Type} {P : α → Prop} {f g : Nat → α} {sp dp n : Nat} (h : ∀ j, P (f j)) (hg : ∀ j, P (g j)) : ∀ j, P (va_cpy f g sp dp n j) := fun j => by
  show P (if dp ≤ j ∧ j < dp + n then f (sp + (j - dp)) else g j)
  split
  · exact h _
  · exact hg j
theorem nar_bit {r : Int32} (h : r.toInt = 0 ∨ r.toInt = 1) : narrow .boolean (.int r) = .int r := by
  rcases h with h | h
  · have e : r = 0 := ci_inj (by rw [h]; rfl)
    subst e; decide
  · have e : r = 1 := ci_inj (by rw [h]; rfl)
    subst e; decide
theorem cl_i2l {x : Int32} {z : Int64} (e : z = x.toInt64) : z.toInt = x.toInt := by
  rw [e]
  first | exact Int32.toInt_toInt64 x | simp
theorem cl_eq {a b : Int64} (h : a = b) : a.toInt = b.toInt := by rw [h]
theorem cl_inj {a b : Int64} (h : a.toInt = b.toInt) : a = b := Int64.toInt_inj.mp h
theorem cl_cmp {x y : Int64} {z : Int32} (e : z = lg_cmp x y) : (z.toInt = -1 ∧ x.toInt < y.toInt) ∨ (z.toInt = 0 ∧ x.toInt = y.toInt) ∨ (z.toInt = 1 ∧ y.toInt < x.toInt) := by
  subst e
  unfold lg_cmp
  have n1 : (1 : Int32).toInt = 1 := by decide
  have n2 : (-1 : Int32).toInt = -1 := by decide
  have n3 : (0 : Int32).toInt = 0 := by decide
  simp only [gt_iff_lt, Int64.lt_iff_toInt_lt, ← Int64.toInt_inj]
  repeat' split
  all_goals omega
theorem ci_max {x y z : Int32} (e : z = if x < y then y else x) : x.toInt ≤ z.toInt ∧ y.toInt ≤ z.toInt ∧ (z.toInt = x.toInt ∨ z.toInt = y.toInt) := by
  subst e
  by_cases h : x < y
  · rw [if_pos h]; have := ci_lt h; omega
  · rw [if_neg h]; have := ci_nlt h; omega
theorem ci_min {x y z : Int32} (e : z = if y < x then y else x) : z.toInt ≤ x.toInt ∧ z.toInt ≤ y.toInt ∧ (z.toInt = x.toInt ∨ z.toInt = y.toInt) := by
  subst e
  by_cases h : y < x
  · rw [if_pos h]; have := ci_lt h; omega
  · rw [if_neg h]; have := ci_nlt h; omega
theorem ci_divL {x y z : Int32} {n : Int} (hy : y.toInt = n) (hn : 0 < n) (e : z = x / y) : 0 ≤ x.toInt → z.toInt = x.toInt / n := fun h => by
  rw [e, Int32.toInt_div, hy, Int.tdiv_eq_ediv_of_nonneg h]
  have h1 := Int.ediv_nonneg h (Int.le_of_lt hn)
  have h2 := Int.ediv_le_self n h
  have := ci_rng x
  exact ci_bmod (by omega) (by omega)
theorem ci_remL {x y z : Int32} {n : Int} (hy : y.toInt = n) (hn : 0 < n) (e : z = x - x / y * y) : 0 ≤ x.toInt → z.toInt = x.toInt % n := fun h => by
  have hq := ci_divL (z := x / y) hy hn rfl h
  have h1 : 0 ≤ x.toInt / n := Int.ediv_nonneg h (by omega)
  have h3 : x.toInt / n * n ≤ x.toInt := Int.ediv_mul_le _ (by omega)
  have h4 : 0 ≤ x.toInt / n * n := Int.mul_nonneg h1 (by omega)
  have hr := ci_rng x
  have hm : (x / y * y).toInt = x.toInt / n * n := by rw [Int32.toInt_mul, hq, hy]; exact ci_bmod (by omega) (by omega)
  rw [e, Int32.toInt_sub, hm, ci_bmod (by omega) (by omega), Int.emod_def, Int.mul_comm n]
theorem ci_remV {x y z : Int32} (hx : 0 ≤ x.toInt) (hy : 0 < y.toInt) (e : z = x - x / y * y) : 0 ≤ z.toInt ∧ z.toInt < y.toInt := by
  rw [ci_remL (n := y.toInt) rfl hy e hx]
  exact ⟨Int.emod_nonneg _ (by omega), Int.emod_lt_of_pos _ hy⟩
theorem ci_ushr8 {x z : Int32} (e : z = (x.toUInt32 >>> ((8 : Int32).toUInt32 &&& Int32.toUInt32 31)).toInt32) : 0 ≤ z.toInt ∧ z.toInt < 16777216 := by
  have h := pk_ushr x 8 8 (by decide)
  rw [← e] at h
  have h2 : x.toBitVec.toNat < 2 ^ 32 := x.toBitVec.isLt
  have h3 : z.toInt = (z.toBitVec.toNat : Int) := by
    show z.toBitVec.toInt = _
    exact BitVec.toInt_eq_toNat_of_lt (by omega)
  omega
theorem ci_len {z : Int32} {n : Nat} (e : z = Int32.ofNat n) (h : (n : Int) < 2147483648) : z.toInt = (n : Int) := by
  rw [e]; exact nI_toInt (n := n) (by omega)
theorem shl_tab : ∀ j : Nat, j < 9 → 1 ≤ ((1 : Int32) <<< (nI j &&& 31)).toInt ∧ ((1 : Int32) <<< (nI j &&& 31)).toInt ≤ 256 := by decide +kernel
theorem shl_rng {x z : Int32} (e : z = (1 : Int32) <<< (x &&& 31)) (h0 : 0 ≤ x.toInt) (h1 : x.toInt ≤ 8) : 1 ≤ z.toInt ∧ z.toInt ≤ 256 := by
  have hx : x = nI x.toInt.toNat := ci_inj (by rw [nI_toInt (by omega)]; omega)
  rw [e, hx]
  exact shl_tab _ (by omega)
/-! the tables that every contract asks for -/
/-- the arrays by what they hold: byte, int, long, boolean, int[], long[] -/
abbrev TY (κ : Nat → ClassId) : List (ClassId × FieldType) := [(κ 0, .byte), (κ 1, .int), (κ 2, .long), (κ 3, .boolean), (κ 4, .array .int), (κ 5, .array .long)]
def NWl : List (String × Nat × MethodName × String) := [("OlderSkin", 9, ⟨"OlderSkin$Sheets", "<init>", "()V"⟩, "OlderSkin"), ("OlderSkin", 18, ⟨"OlderSkin$Orders", "<init>", "()V"⟩, "OlderSkin"), ("OlderSkin", 25, ⟨"OlderSkin$Lines", "<init>", "()V"⟩, "OlderSkin"), ("OlderSkin", 32, ⟨"OlderSkin$Dots", "<init>", "()V"⟩, "OlderSkin"), ("OlderSkin", 39, ⟨"OlderSkin$Places", "<init>", "()V"⟩, "OlderSkin"), ("OlderSkin", 46, ⟨"OlderSkin$Maps", "<init>", "()V"⟩, "OlderSkin"), ("OlderSkin", 53, ⟨"OlderSkin$Tape", "<init>", "()V"⟩, "OlderSkin"), ("OlderSkin", 60, ⟨"OlderSkin$Stories", "<init>", "()V"⟩, "OlderSkin"), ("OlderSkin", 67, ⟨"OlderSkin$Changes", "<init>", "()V"⟩, "OlderSkin"), ("OlderSkin", 74, ⟨"OlderSkin$Bodies", "<init>", "()V"⟩, "OlderSkin"), ("OlderSkin", 81, ⟨"OlderSkin$Shelves", "<init>", "()V"⟩, "OlderSkin"), ("OlderSkin$Sheets", 34, ⟨"OlderSkin", "within", "(III)Z"⟩, "OlderSkin"), ("OlderSkin$Orders", 41, ⟨"OlderSkin", "hasBit", "(II)Z"⟩, "OlderSkin"), ("OlderSkin$Lines", 40, ⟨"OlderSkin", "within", "(III)Z"⟩, "OlderSkin"), ("OlderSkin$Lines", 63, ⟨"OlderSkin", "hasBit", "(II)Z"⟩, "OlderSkin"), ("OlderSkin$Dots", 37, ⟨"OlderSkin", "within", "(III)Z"⟩, "OlderSkin"), ("OlderSkin$Shelves", 26, ⟨"OlderSkin", "within", "(III)Z"⟩, "OlderSkin"), ("OlderSkin$Dots", 51, ⟨"OlderSkin", "hasBit", "(II)Z"⟩, "OlderSkin"), ("OlderSkin$Dots", 55, ⟨"OlderSkin", "asBit", "(Z)I"⟩, "OlderSkin"), ("OlderSkin$Dots", 69, ⟨"OlderSkin", "drawn", "(I)I"⟩, "OlderSkin"), ("OlderSkin$Places", 25, ⟨"OlderSkin", "asBit", "(Z)I"⟩, "OlderSkin"), ("OlderSkin$Places", 42, ⟨"OlderSkin", "drawn", "(I)I"⟩, "OlderSkin"), ("OlderSkin$Maps", 22, ⟨"OlderSkin", "within", "(III)Z"⟩, "OlderSkin"), ("OlderSkin$Stories", 36, ⟨"OlderSkin", "within", "(III)Z"⟩, "OlderSkin"), ("OlderSkin$Lines", 53, ⟨"OlderSkin", "asBit", "(Z)I"⟩, "OlderSkin"), ("OlderSkin$Stories", 60, ⟨"OlderSkin", "asBit", "(Z)I"⟩, "OlderSkin"), ("OlderSkin$Bodies", 22, ⟨"OlderSkin", "within", "(III)Z"⟩, "OlderSkin")]
def tbAbove : List Int32 := [-1, 0, 0, 1, 2, 0, 0, 6]
def tbOwn : List Int32 := [1, 10, 11, 2, 20, 0, 0, 0, 0, 30, 0, 0, 0, 0, 40, 0, 0, 51, 0, 50, 0, 0, 60, 0, 70, 0, 0, 0, 0, 80, 0, 81]
def tbText : List Int32 := [111, 114, 115, 98, 108, 121, 102, 97]
/-- the static tables and the one text, below β, where no world's cell lies -/
def STAT (β : Nat) (U : State) : Prop :=
  (∃ t1 t2 : Nat, va_Z "OlderSkin$Bodies" "ABOVE" "[I" (.ref t1) (fun q => β ≤ q) U U.heap ∧ va_T .int t1 8 (fun j => .int (tbAbove.getD j 0)) (fun q => β ≤ q) U U.heap ∧
    va_Z "OlderSkin$Bodies" "OWN" "[I" (.ref t2) (fun q => β ≤ q) U U.heap ∧ va_T .int t2 32 (fun j => .int (tbOwn.getD j 0)) (fun q => β ≤ q) U U.heap) ∧
  (∃ k v : Nat, vk_R "OlderSkin" 86 "orsblyfa" k U ∧ vk_R "OlderSkin$Tape" 68 "orsblyfa" k U ∧ vk_S 1 [8] [tbText] (fun _ => k) (fun _ => v) (fun q => β ≤ q) U U.heap) ∧
  va_Z "java/lang/String" "COMPACT_STRINGS" "Z" (.int 1) (fun q => β ≤ q) U U.heap
def KK (D : va_G) (κ : Nat → ClassId) (β : Nat) (U : State) : Prop := va_K D vwCl (TY κ) U ∧ (∀ q ∈ NWl, va_Nw (.methodLinkNest q.1 q.2.1 q.2.2.1 q.2.2.2) U) ∧ (∃ kA : Class, U.vm.classes[κ 4]? = some kA ∧ kA.kind = .array (κ 1) (.array .int)) ∧ β ≤ U.heap.size ∧ STAT β U
theorem STAT.at {β : Nat} {s U : State} {H : Heap} {A : Nat → Prop} {locs : List Loc} (h : STAT β s) (hW : s.WarmedH U.vm) (hU : U.heap = H) (hS : va_S A s.heap H locs) (hAB : ∀ q, A q → β ≤ q) : STAT β U := by
  subst hU
  have hk : ∀ a : Nat, a < s.heap.size → ¬ β ≤ a → U.heap[a]? = s.heap[a]? := fun a h1 h2 => hS.2.1 a h1 (fun q => h2 (hAB a q))
  obtain ⟨⟨t1, t2, z1, y1, z2, y2⟩, ⟨k, v, r1, r2, s1⟩, c1⟩ := h
  exact ⟨⟨t1, t2, (z1.moved hW.alike).kept hk, (y1.moved hW.alike).kept hk, (z2.moved hW.alike).kept hk, (y2.moved hW.alike).kept hk⟩, ⟨k, v, vk_R.warm hW r1, vk_R.warm hW r2, (s1.moved hW.alike).kept hk⟩, (c1.moved hW.alike).kept hk⟩
theorem STAT.calling {β : Nat} {U : State} {a : Array Value} {g : JFrame} {mk : MethodId} (h : STAT β U) : STAT β (U.calling g mk a) := by
  obtain ⟨⟨t1, t2, z1, y1, z2, y2⟩, ⟨k, v, r1, r2, s1⟩, c1⟩ := h
  have hv : U.vm.Alike (U.calling g mk a).vm := Vm.Alike.refl U.vm
  exact ⟨⟨t1, t2, z1.moved hv, y1.moved hv, z2.moved hv, y2.moved hv⟩, ⟨k, v, vk_R.same (u := U) (U := U.calling g mk a) rfl r1, vk_R.same (u := U) (U := U.calling g mk a) rfl r2, s1.moved hv⟩, c1.moved hv⟩
theorem KK.at {D : va_G} {κ : Nat → ClassId} {β : Nat} {s U : State} {H : Heap} {A : Nat → Prop} {locs : List Loc} (h : KK D κ β s) (hW : s.WarmedH U.vm) (hU : U.heap = H) (hS : va_S A s.heap H locs) (hAB : ∀ q, A q → β ≤ q) : KK D κ β U := by
  obtain ⟨h1, h2, ⟨kA, h3, h4⟩, h5, h6⟩ := h
  obtain ⟨k', hk', he⟩ := hW.alike.2.2 _ _ h3
  exact ⟨va_K.moved hW.alike h1, fun q hq => va_Nw.warmM hW (h2 q hq), ⟨k', hk', by rw [he]; exact h4⟩, by rw [hU]; exact Nat.le_trans h5 hS.1, h6.at hW hU hS hAB⟩
theorem KK.calling {D : va_G} {κ : Nat → ClassId} {β : Nat} {U : State} {a : Array Value} {g : JFrame} {mk : MethodId} (h : KK D κ β U) : KK D κ β (U.calling g mk a) := ⟨va_K.moved (u := U) (U := U.calling g mk a) (Vm.Alike.refl U.vm) h.1, fun q hq => va_Nw.same (u := U) (U := U.calling g mk a) rfl rfl (h.2.1 q hq), h.2.2.1, h.2.2.2.1, h.2.2.2.2.calling⟩
/-! a contract's start and end over a world of cells -/
def PcK (D : va_G) (κ : Nat → ClassId) (β : Nat) (ws : va_W) (sz : Nat) (av : List Value) : Array Value → State → Prop := va_Pc av (fun U => U.heap.size = sz ∧ va_P D vwCl ws U.heap ∧ KK D κ β U ∧ va_D (fun q => β ≤ q) ws)
def QiK {S : Type} (D : va_G) (post : Int32 → S → Prop) (W1 : S → va_W) (ws : va_W) (sz : Nat) : Array Value → State → Outcome → State → Prop := va_Qi post (fun u t => va_P D vwCl (W1 u) t.heap ∧ va_D (va_A ws sz) (W1 u)) (va_A ws sz)
def QlK {S : Type} (D : va_G) (post : Int64 → S → Prop) (W1 : S → va_W) (ws : va_W) (sz : Nat) : Array Value → State → Outcome → State → Prop := va_Ql post (fun u t => va_P D vwCl (W1 u) t.heap ∧ va_D (va_A ws sz) (W1 u)) (va_A ws sz)
def QvK {S : Type} (D : va_G) (post : S → Prop) (W1 : S → va_W) (ws : va_W) (sz : Nat) : Array Value → State → Outcome → State → Prop := va_Qv post (fun u t => va_P D vwCl (W1 u) t.heap ∧ va_D (va_A ws sz) (W1 u)) (va_A ws sz)
theorem PcK.blind {D : va_G} {κ : Nat → ClassId} {β : Nat} {ws : va_W} {sz : Nat} {av : List Value} : FrameBlind (PcK D κ β ws sz av) := fun a U g mk h => by
  obtain ⟨h0, h1, h2, h3, h4⟩ := h
  exact ⟨h0, h1, h2, h3.calling, h4⟩
theorem ofK_i {S : Type} {l : Launch} {y : MethodName} {wsY ws' : List Cond} {rm : Room} {D : va_G} {κ : Nat → ClassId} {β : Nat} {ws : va_W} {sz : Nat} {av : List Value} {post : Int32 → S → Prop} {W1 : S → va_W} {mc ms : Nat} {cc : ByteArray} {maxL : Nat} {own : String}
    (hy : plainName y.cls = true) (hown : y.cls = own) (hw : wsY = Cond.code y cc maxL (some .int) :: ws') (hsl : (lg_sl av).length ≤ maxL)
    (body : ∀ (p : Program) (e : Env) (s : State) (m : MethodId) (args : Array Value) (below : List Frame) (meth : Method) (c : Code) (Q : State → Prop) (A : Nat → Prop) (ls : Array Slot), s.heap.size = sz →
      p.tables.exec = Jvm.exec → c.code = cc → c.maxLocals = maxL → (∀ w ∈ wsY, w.before args s = true) → s.vm.findClass own = some m.cls → KK D κ β s → (∀ q, s.heap.size ≤ q → A q) → (∀ q, A q → β ≤ q) → va_P D vwCl ws s.heap → va_D A ws → lv_has ls maxL (lv_args 0 av) →
      (∀ (H : Heap) (locs : List Loc) (ls : Array Slot) (pc : Nat) (r : Int32) (u : S), decode cc pc = .ok (.ireturn, 1) → post r u → va_P D vwCl (W1 u) H → va_D A (W1 u) → va_S A s.heap H locs → W p l e rm s m args below meth c H locs mc ms Q (F0 m pc ls [.int r])) →
      W p l e rm s m args below meth c s.heap [] 0 0 Q (F0 m 0 ls [])) :
    Met l y wsY rm (PcK D κ β ws sz av) (QiK D post W1 ws sz) mc ms (va_A ws sz) := by
  refine Met.ofW (cc := cc) (maxL := maxL) (ret := some .int) hy hw ?_
  intro p e s m args below meth c s₁ B hml hv
  obtain ⟨rfl, hsz, hP, hK, hD0⟩ := hv
  subst hsz
  rw [lg_entry_eq]
  refine body p e s m _ below meth c _ (va_A ws s.heap.size) _ rfl B.exec B.bytes hml (atoms_spec (ws := wsY) B.pre) (by rw [← hown]; exact findClass_of_methodNamed B.named) hK (fun q h => Or.inr h) (fun q h => h.elim (fun ⟨k, e, hk⟩ => hD0.2 k _ hk) (fun h => Nat.le_trans hK.2.2.2.1 h)) hP (hD0.self (sz := s.heap.size)) (lv_entry av (n := maxL) hsl) ?_
  intro H locs ls pc r u hdg hpo hP1 hD1 hS
  exact W.iret (v := r) B.exec B.bytes B.returns (fun t ht hW => ⟨⟨r, u, rfl, hpo, by rw [ht]; exact hP1, hD1⟩, hS.F ht⟩) hS.2.2 hdg
theorem ofK_z {S : Type} {l : Launch} {y : MethodName} {wsY ws' : List Cond} {rm : Room} {D : va_G} {κ : Nat → ClassId} {β : Nat} {ws : va_W} {sz : Nat} {av : List Value} {post : Int32 → S → Prop} {W1 : S → va_W} {mc ms : Nat} {cc : ByteArray} {maxL : Nat} {own : String}
    (hy : plainName y.cls = true) (hown : y.cls = own) (hw : wsY = Cond.code y cc maxL (some .boolean) :: ws') (hsl : (lg_sl av).length ≤ maxL)
    (body : ∀ (p : Program) (e : Env) (s : State) (m : MethodId) (args : Array Value) (below : List Frame) (meth : Method) (c : Code) (Q : State → Prop) (A : Nat → Prop) (ls : Array Slot), s.heap.size = sz →
      p.tables.exec = Jvm.exec → c.code = cc → c.maxLocals = maxL → (∀ w ∈ wsY, w.before args s = true) → s.vm.findClass own = some m.cls → KK D κ β s → (∀ q, s.heap.size ≤ q → A q) → (∀ q, A q → β ≤ q) → va_P D vwCl ws s.heap → va_D A ws → lv_has ls maxL (lv_args 0 av) →
      (∀ (H : Heap) (locs : List Loc) (ls : Array Slot) (pc : Nat) (r : Int32) (u : S), decode cc pc = .ok (.ireturn, 1) → (r.toInt = 0 ∨ r.toInt = 1) → post r u → va_P D vwCl (W1 u) H → va_D A (W1 u) → va_S A s.heap H locs → W p l e rm s m args below meth c H locs mc ms Q (F0 m pc ls [.int r])) →
      W p l e rm s m args below meth c s.heap [] 0 0 Q (F0 m 0 ls [])) :
    Met l y wsY rm (PcK D κ β ws sz av) (QiK D post W1 ws sz) mc ms (va_A ws sz) := by
  refine Met.ofW (cc := cc) (maxL := maxL) (ret := some .boolean) hy hw ?_
  intro p e s m args below meth c s₁ B hml hv
  obtain ⟨rfl, hsz, hP, hK, hD0⟩ := hv
  subst hsz
  rw [lg_entry_eq]
  refine body p e s m _ below meth c _ (va_A ws s.heap.size) _ rfl B.exec B.bytes hml (atoms_spec (ws := wsY) B.pre) (by rw [← hown]; exact findClass_of_methodNamed B.named) hK (fun q h => Or.inr h) (fun q h => h.elim (fun ⟨k, e, hk⟩ => hD0.2 k _ hk) (fun h => Nat.le_trans hK.2.2.2.1 h)) hP (hD0.self (sz := s.heap.size)) (lv_entry av (n := maxL) hsl) ?_
  intro H locs ls pc r u hdg hz hpo hP1 hD1 hS
  exact W.zret (v := r) B.exec B.bytes B.returns (nar_bit hz) (fun t ht hW => ⟨⟨r, u, rfl, hpo, by rw [ht]; exact hP1, hD1⟩, hS.F ht⟩) hS.2.2 hdg
theorem ofK_l {S : Type} {l : Launch} {y : MethodName} {wsY ws' : List Cond} {rm : Room} {D : va_G} {κ : Nat → ClassId} {β : Nat} {ws : va_W} {sz : Nat} {av : List Value} {post : Int64 → S → Prop} {W1 : S → va_W} {mc ms : Nat} {cc : ByteArray} {maxL : Nat} {own : String}
    (hy : plainName y.cls = true) (hown : y.cls = own) (hw : wsY = Cond.code y cc maxL (some .long) :: ws') (hsl : (lg_sl av).length ≤ maxL)
    (body : ∀ (p : Program) (e : Env) (s : State) (m : MethodId) (args : Array Value) (below : List Frame) (meth : Method) (c : Code) (Q : State → Prop) (A : Nat → Prop) (ls : Array Slot), s.heap.size = sz →
      p.tables.exec = Jvm.exec → c.code = cc → c.maxLocals = maxL → (∀ w ∈ wsY, w.before args s = true) → s.vm.findClass own = some m.cls → KK D κ β s → (∀ q, s.heap.size ≤ q → A q) → (∀ q, A q → β ≤ q) → va_P D vwCl ws s.heap → va_D A ws → lv_has ls maxL (lv_args 0 av) →
      (∀ (H : Heap) (locs : List Loc) (ls : Array Slot) (pc : Nat) (r : Int64) (u : S), decode cc pc = .ok (.lreturn, 1) → post r u → va_P D vwCl (W1 u) H → va_D A (W1 u) → va_S A s.heap H locs → W p l e rm s m args below meth c H locs mc ms Q (F0 m pc ls [.long r])) →
      W p l e rm s m args below meth c s.heap [] 0 0 Q (F0 m 0 ls [])) :
    Met l y wsY rm (PcK D κ β ws sz av) (QlK D post W1 ws sz) mc ms (va_A ws sz) := by
  refine Met.ofW (cc := cc) (maxL := maxL) (ret := some .long) hy hw ?_
  intro p e s m args below meth c s₁ B hml hv
  obtain ⟨rfl, hsz, hP, hK, hD0⟩ := hv
  subst hsz
  rw [lg_entry_eq]
  refine body p e s m _ below meth c _ (va_A ws s.heap.size) _ rfl B.exec B.bytes hml (atoms_spec (ws := wsY) B.pre) (by rw [← hown]; exact findClass_of_methodNamed B.named) hK (fun q h => Or.inr h) (fun q h => h.elim (fun ⟨k, e, hk⟩ => hD0.2 k _ hk) (fun h => Nat.le_trans hK.2.2.2.1 h)) hP (hD0.self (sz := s.heap.size)) (lv_entry av (n := maxL) hsl) ?_
  intro H locs ls pc r u hdg hpo hP1 hD1 hS
  exact W.lret (v := r) B.exec B.bytes B.returns (fun t ht hW => ⟨⟨r, u, rfl, hpo, by rw [ht]; exact hP1, hD1⟩, hS.F ht⟩) hS.2.2 hdg
theorem ofK_v {S : Type} {l : Launch} {y : MethodName} {wsY ws' : List Cond} {rm : Room} {D : va_G} {κ : Nat → ClassId} {β : Nat} {ws : va_W} {sz : Nat} {av : List Value} {post : S → Prop} {W1 : S → va_W} {mc ms : Nat} {cc : ByteArray} {maxL : Nat} {own : String}
    (hy : plainName y.cls = true) (hown : y.cls = own) (hw : wsY = Cond.code y cc maxL none :: ws') (hsl : (lg_sl av).length ≤ maxL)
    (body : ∀ (p : Program) (e : Env) (s : State) (m : MethodId) (args : Array Value) (below : List Frame) (meth : Method) (c : Code) (Q : State → Prop) (A : Nat → Prop) (ls : Array Slot), s.heap.size = sz →
      p.tables.exec = Jvm.exec → c.code = cc → c.maxLocals = maxL → (∀ w ∈ wsY, w.before args s = true) → s.vm.findClass own = some m.cls → KK D κ β s → (∀ q, s.heap.size ≤ q → A q) → (∀ q, A q → β ≤ q) → va_P D vwCl ws s.heap → va_D A ws → lv_has ls maxL (lv_args 0 av) → meth.name = y.name →
      (∀ (H : Heap) (locs : List Loc) (ls : Array Slot) (pc : Nat) (u : S), decode cc pc = .ok (.return_, 1) → post u → va_P D vwCl (W1 u) H → va_D A (W1 u) → va_S A s.heap H locs → W p l e rm s m args below meth c H locs mc ms Q (F0 m pc ls [])) →
      W p l e rm s m args below meth c s.heap [] 0 0 Q (F0 m 0 ls [])) :
    Met l y wsY rm (PcK D κ β ws sz av) (QvK D post W1 ws sz) mc ms (va_A ws sz) := by
  refine Met.ofW (cc := cc) (maxL := maxL) (ret := none) hy hw ?_
  intro p e s m args below meth c s₁ B hml hv
  obtain ⟨rfl, hsz, hP, hK, hD0⟩ := hv
  subst hsz
  rw [lg_entry_eq]
  refine body p e s m _ below meth c _ (va_A ws s.heap.size) _ rfl B.exec B.bytes hml (atoms_spec (ws := wsY) B.pre) (by rw [← hown]; exact findClass_of_methodNamed B.named) hK (fun q h => Or.inr h) (fun q h => h.elim (fun ⟨k, e, hk⟩ => hD0.2 k _ hk) (fun h => Nat.le_trans hK.2.2.2.1 h)) hP (hD0.self (sz := s.heap.size)) (lv_entry av (n := maxL) hsl) (name_of_methodNamed B.named B.method).1 ?_
  intro H locs ls pc u hdg hpo hP1 hD1 hS
  exact W.vret B.exec B.bytes B.returns (fun t ht hW => ⟨⟨u, rfl, hpo, by rw [ht]; exact hP1, hD1⟩, hS.F ht⟩) hS.2.2 hdg
/-! calls: the callee's cells are cut out and come back -/
theorem fm_of_map {α β : Type} {f : α → Option β} {l : List α} {w : List β} (h : l.map f = w.map some) : l.filterMap f = w := by
  induction l generalizing w with
  | nil => cases w with
    | nil => rfl
    | cons a w => simp at h
  | cons a l ih => cases w with
    | nil => simp at h
    | cons b w =>
      simp only [List.map_cons, List.cons.injEq] at h
      rw [List.filterMap_cons, h.1, ih h.2]
theorem pk_V {D : va_G} {κ : Nat → ClassId} {β : Nat} {s : State} {H : Heap} {A : Nat → Prop} {locs : List Loc} {wc : va_W} {b ci : Nat} {q : vw_C} {fs : List Value} {As : List Value} {C : String} (hK : KK D κ β s) (hS : va_S A s.heap H locs) (hAB : ∀ q, A q → β ≤ q) (hP : va_P D vwCl wc H) (hD : va_D (fun q => β ≤ q) wc) (q0 : Nat) (hc : vwCl[ci]? = some q) (he : wc[q0]? = some (b, .inr (ci, fs))) (hC : q.1 = C) : PreV s H C b (PcK D κ β wc H.size (.ref b :: As)) As := by
  subst hC
  exact ⟨PcK.blind, va_recv hK.1 hP hc he, fun U hU hW => ⟨rfl, by rw [hU], by rw [hU]; exact hP, hK.at hW hU hS hAB, hD⟩⟩
theorem pk_S {D : va_G} {κ : Nat → ClassId} {β : Nat} {s : State} {H : Heap} {A : Nat → Prop} {locs : List Loc} {wc : va_W} {As : List Value} (hK : KK D κ β s) (hS : va_S A s.heap H locs) (hAB : ∀ q, A q → β ≤ q) (hP : va_P D vwCl wc H) (hD : va_D (fun q => β ≤ q) wc) : PreS s H (PcK D κ β wc H.size As) As :=
  ⟨PcK.blind, fun U hU hW => ⟨rfl, by rw [hU], by rw [hU]; exact hP, hK.at hW hU hS hAB, hD⟩⟩
section KC
variable {p : Program} {l : Launch} {e : Env} {R : Room} {s : State} {m : MethodId} {args : Array Value} {below : List Frame} {meth : Method} {c : Code} {H : Heap} {locs : List Loc} {cells slots : Nat} {Q : State → Prop}
variable {β pc : Nat} {ls : Array Slot} {rest st0 : List Value} {a : Array Value} {A : Nat → Prop} {H0 : Heap} {mc ms : Nat} {D : va_G} {ws wc wr : va_W}
theorem kc_i {S : Type} {post : Int32 → S → Prop} {W1 : S → va_W} (hA : ∀ q, H0.size ≤ q → A q) (hAB : ∀ q, A q → β ≤ q) (hP : va_P D vwCl ws H) (hD : va_D A ws) (hS : va_S A H0 H locs) (isC isR : List Nat) (hC : isC.map (fun i => ws[i]?) = wc.map some) (hR : isR.map (fun i => ws[i]?) = wr.map some) (hnC : va_nd isC = true) (hnR : va_nd isR = true) (hdis : ∀ i ∈ isR, i ∉ isC)
    (hr : va_P D vwCl wc H → va_D (fun q => β ≤ q) wc → va_Run p l e R s m args below meth c H locs cells slots mc ms (F0 m pc ls st0) rest (QiK D post W1 wc H.size a) (va_A wc H.size))
    (kk : ∀ (r : Int32) (u : S) (H1 : Heap) (locs1 : List Loc), post r u → va_P D vwCl (wr ++ W1 u) H1 → va_D A (wr ++ W1 u) → va_S A H0 H1 locs1 → W p l e R s m args below meth c H1 locs1 (cells + mc) (slots + ms) Q (F0 m (pc + 3) ls (.int r :: rest))) : W p l e R s m args below meth c H locs cells slots Q (F0 m pc ls st0) := by
  have hPc : va_P D vwCl wc H := hP.sub isC (fm_of_map hC)
  have hDc : va_D (fun q => β ≤ q) wc := (hD.sub isC hnC hC).weaken (fun _ _ _ h => hAB _ h)
  have hFc := va_free hD hS hA isC hC
  refine va_calli (hr hPc hDc) hS (fun q _ h => hFc q h) hFc (fun r u t H1 locs1 ht hvm hw hB hz1 hk1 hS1 => ?_)
  obtain ⟨hP1, hD1⟩ := hB
  rw [ht] at hP1
  obtain ⟨hP', hD'⟩ := va_join hP hD isC isR hC hR hnR hdis hk1 hFc hP1 hD1
  exact kk r u H1 locs1 hw hP' hD' hS1
theorem kc_l {S : Type} {post : Int64 → S → Prop} {W1 : S → va_W} (hA : ∀ q, H0.size ≤ q → A q) (hAB : ∀ q, A q → β ≤ q) (hP : va_P D vwCl ws H) (hD : va_D A ws) (hS : va_S A H0 H locs) (isC isR : List Nat) (hC : isC.map (fun i => ws[i]?) = wc.map some) (hR : isR.map (fun i => ws[i]?) = wr.map some) (hnC : va_nd isC = true) (hnR : va_nd isR = true) (hdis : ∀ i ∈ isR, i ∉ isC)
    (hr : va_P D vwCl wc H → va_D (fun q => β ≤ q) wc → va_Run p l e R s m args below meth c H locs cells slots mc ms (F0 m pc ls st0) rest (QlK D post W1 wc H.size a) (va_A wc H.size))
    (kk : ∀ (r : Int64) (u : S) (H1 : Heap) (locs1 : List Loc), post r u → va_P D vwCl (wr ++ W1 u) H1 → va_D A (wr ++ W1 u) → va_S A H0 H1 locs1 → W p l e R s m args below meth c H1 locs1 (cells + mc) (slots + ms) Q (F0 m (pc + 3) ls (.long r :: rest))) : W p l e R s m args below meth c H locs cells slots Q (F0 m pc ls st0) := by
  have hPc : va_P D vwCl wc H := hP.sub isC (fm_of_map hC)
  have hDc : va_D (fun q => β ≤ q) wc := (hD.sub isC hnC hC).weaken (fun _ _ _ h => hAB _ h)
  have hFc := va_free hD hS hA isC hC
  refine va_calll (hr hPc hDc) hS (fun q _ h => hFc q h) hFc (fun r u t H1 locs1 ht hvm hw hB hz1 hk1 hS1 => ?_)
  obtain ⟨hP1, hD1⟩ := hB
  rw [ht] at hP1
  obtain ⟨hP', hD'⟩ := va_join hP hD isC isR hC hR hnR hdis hk1 hFc hP1 hD1
  exact kk r u H1 locs1 hw hP' hD' hS1
theorem kc_v {S : Type} {post : S → Prop} {W1 : S → va_W} (hA : ∀ q, H0.size ≤ q → A q) (hAB : ∀ q, A q → β ≤ q) (hP : va_P D vwCl ws H) (hD : va_D A ws) (hS : va_S A H0 H locs) (isC isR : List Nat) (hC : isC.map (fun i => ws[i]?) = wc.map some) (hR : isR.map (fun i => ws[i]?) = wr.map some) (hnC : va_nd isC = true) (hnR : va_nd isR = true) (hdis : ∀ i ∈ isR, i ∉ isC)
    (hr : va_P D vwCl wc H → va_D (fun q => β ≤ q) wc → va_Run p l e R s m args below meth c H locs cells slots mc ms (F0 m pc ls st0) rest (QvK D post W1 wc H.size a) (va_A wc H.size))
    (kk : ∀ (u : S) (H1 : Heap) (locs1 : List Loc), post u → va_P D vwCl (wr ++ W1 u) H1 → va_D A (wr ++ W1 u) → va_S A H0 H1 locs1 → W p l e R s m args below meth c H1 locs1 (cells + mc) (slots + ms) Q (F0 m (pc + 3) ls rest)) : W p l e R s m args below meth c H locs cells slots Q (F0 m pc ls st0) := by
  have hPc : va_P D vwCl wc H := hP.sub isC (fm_of_map hC)
  have hDc : va_D (fun q => β ≤ q) wc := (hD.sub isC hnC hC).weaken (fun _ _ _ h => hAB _ h)
  have hFc := va_free hD hS hA isC hC
  refine va_callv (hr hPc hDc) hS (fun q _ h => hFc q h) hFc (fun u t H1 locs1 ht hvm hw hB hz1 hk1 hS1 => ?_)
  obtain ⟨hP1, hD1⟩ := hB
  rw [ht] at hP1
  obtain ⟨hP', hD'⟩ := va_join hP hD isC isR hC hR hnR hdis hk1 hFc hP1 hD1
  exact kk u H1 locs1 hw hP' hD' hS1
/-- the top of the stack under another name -/
theorem lv_re {x y : Int32} (h : y = x) (k : W p l e R s m args below meth c H locs cells slots Q (F0 m pc ls (.int y :: rest))) : W p l e R s m args below meth c H locs cells slots Q (F0 m pc ls (.int x :: rest)) := by
  subst h
  exact k
end KC
abbrev O0 (a : Nat) (r : Nat → Nat) (f_count : Int32) (f_ran : Int32) (f_actor : Int32) : Nat × va_E := (a, .inr (0, [.ref (r 0), .int f_count, .ref (r 2), .int f_ran, .int f_actor]))
abbrev O1 (a : Nat) (r : Nat → Nat) (f_done : Int32) (f_kept : Int32) : Nat × va_E := (a, .inr (1, [.ref (r 0), .ref (r 1), .ref (r 2), .ref (r 3), .int f_done, .int f_kept]))
abbrev O2 (a : Nat) (r : Nat → Nat) (f_count : Int32) (f_madeIn : Int32) (f_bound : Int32) : Nat × va_E := (a, .inr (2, [.ref (r 0), .ref (r 1), .ref (r 2), .int f_count, .int f_madeIn, .int f_bound, .ref (r 6), .ref (r 7)]))
abbrev O3 (a : Nat) (r : Nat → Nat) (f_count : Int32) (f_marks : Int32) : Nat × va_E := (a, .inr (3, [.ref (r 0), .ref (r 1), .int f_count, .ref (r 3), .ref (r 4), .ref (r 5), .int f_marks, .ref (r 7), .ref (r 8), .ref (r 9)]))
abbrev O4 (a : Nat) (r : Nat → Nat) (f_count : Int32) : Nat × va_E := (a, .inr (4, [.ref (r 0), .ref (r 1), .int f_count]))
abbrev O5 (a : Nat) (r : Nat → Nat) (f_all : Int32) : Nat × va_E := (a, .inr (5, [.int f_all, .ref (r 1), .ref (r 2), .ref (r 3)]))
abbrev O6 (a : Nat) (r : Nat → Nat) (f_count : Int32) : Nat × va_E := (a, .inr (6, [.ref (r 0), .ref (r 1), .ref (r 2), .int f_count]))
abbrev O7 (a : Nat) (r : Nat → Nat) (f_count : Int32) (f_holes : Int32) (f_worms : Int32) : Nat × va_E := (a, .inr (7, [.ref (r 0), .int f_count, .ref (r 2), .ref (r 3), .ref (r 4), .int f_holes, .ref (r 6), .ref (r 7), .int f_worms]))
abbrev O8 (a : Nat) (r : Nat → Nat)  : Nat × va_E := (a, .inr (8, [.ref (r 0), .ref (r 1), .ref (r 2), .ref (r 3)]))
abbrev O9 (a : Nat) (r : Nat → Nat) (f_count : Int32) : Nat × va_E := (a, .inr (9, [.ref (r 0), .ref (r 1), .ref (r 2), .ref (r 3), .ref (r 4), .int f_count, .ref (r 6)]))
abbrev O10 (a : Nat) (r : Nat → Nat) (f_bytes : Nat) (f_count : Int32) (f_at : Int32) (f_steps : Nat) (f_size : Int32) : Nat × va_E := (a, .inr (10, [.ref f_bytes, .int f_count, .int f_at, .ref f_steps, .int f_size]))
abbrev O11 (a a7 a5 a3 a2 a6 a4 a10 a9 a1 a0 a8 aN : Nat) : Nat × va_E := (a, .inr (11, [.ref a7, .ref a5, .ref a3, .ref a2, .ref a6, .ref a4, .ref a10, .ref a9, .ref a1, .ref a0, .ref a8, .ref aN]))
abbrev O12 (a : Nat) (r : Nat → Nat) (f_keptMany : Int32) (f_done : Int32) (f_sheets : Int32) (f_holes : Int32) (f_worms : Int32) (f_laidMany : Int32) (f_wanted : Int32) (f_orderMany : Int32) (f_firstOrder : Int32) (f_lines : Int32) (f_marks : Int32) (f_dots : Int32) (f_madeIn : Int32) (f_bound : Int32) (f_places : Int32) (f_maps : Int32) (f_tapeMany : Int32) (f_stories : Int32) (f_base : Int32) (f_at : Int32) (f_ends : Int32) (f_fault : Int32) (f_opened : Int32) (f_bodies : Int32) (f_ran : Int32) (f_ownKind : Int32) (f_ownNumber : Int32) : Nat × va_E := (a, .inr (12, [.ref (r 0), .ref (r 1), .ref (r 2), .ref (r 3), .int f_keptMany, .int f_done, .int f_sheets, .int f_holes, .ref (r 8), .ref (r 9), .ref (r 10), .ref (r 11), .ref (r 12), .int f_worms, .ref (r 14), .int f_laidMany, .int f_wanted, .int f_orderMany, .int f_firstOrder, .ref (r 19), .int f_lines, .ref (r 21), .ref (r 22), .int f_marks, .ref (r 24), .ref (r 25), .ref (r 26), .int f_dots, .ref (r 28), .ref (r 29), .ref (r 30), .ref (r 31), .int f_madeIn, .int f_bound, .int f_places, .ref (r 35), .ref (r 36), .ref (r 37), .int f_maps, .ref (r 39), .ref (r 40), .ref (r 41), .int f_tapeMany, .int f_stories, .ref (r 44), .ref (r 45), .ref (r 46), .int f_base, .int f_at, .int f_ends, .int f_fault, .int f_opened, .ref (r 52), .int f_bodies, .ref (r 54), .ref (r 55), .int f_ran, .int f_ownKind, .int f_ownNumber, .ref (r 59), .ref (r 60), .ref (r 61), .ref (r 62)]))
/-- a range, unread by omega -/
def Rg (lo hi : Int) (v : Int32) : Prop := lo ≤ v.toInt ∧ v.toInt ≤ hi
theorem rg_mk {lo hi : Int} {v : Int32} (h1 : lo ≤ v.toInt) (h2 : v.toInt ≤ hi) : Rg lo hi v := ⟨h1, h2⟩
/-! cells by name -/
abbrev cB (κ : Nat → ClassId) (a n : Nat) (f : Nat → Int32) : Nat × va_E := (a, .inl (κ 0, n, .inl f))
abbrev cI (κ : Nat → ClassId) (a n : Nat) (f : Nat → Int32) : Nat × va_E := (a, .inl (κ 1, n, .inl f))
abbrev cZ (κ : Nat → ClassId) (a n : Nat) (f : Nat → Int32) : Nat × va_E := (a, .inl (κ 3, n, .inl f))
abbrev cJ (κ : Nat → ClassId) (a n : Nat) (f : Nat → Int64) : Nat × va_E := (a, .inl (κ 2, n, .inr (.inl f)))
abbrev cRI (κ : Nat → ClassId) (a n : Nat) (f : Nat → Option Nat) : Nat × va_E := (a, .inl (κ 4, n, .inr (.inr (.inr (.inr f)))))
abbrev cRJ (κ : Nat → ClassId) (a n : Nat) (f : Nat → Option Nat) : Nat × va_E := (a, .inl (κ 5, n, .inr (.inr (.inr (.inr f)))))
/-! calls by a mask: the callee's cells lie in the caller's order, and come back at their places -/
/-- a world's facts at once -/
abbrev PD (D : va_G) (A : Nat → Prop) (ws : va_W) (H : Heap) : Prop := va_P D vwCl ws H ∧ va_D A ws
def mC : List Bool → va_W → va_W
  | true :: m, c :: w => c :: mC m w
  | false :: m, _ :: w => mC m w
  | _, _ => []
def mR : List Bool → va_W → va_W
  | true :: m, _ :: w => mR m w
  | false :: m, c :: w => c :: mR m w
  | _, _ => []
def mM : List Bool → va_W → va_W → va_W
  | true :: m, c :: C, R => c :: mM m C R
  | false :: m, C, c :: R => c :: mM m C R
  | _, _, _ => []
def mI (b : Bool) : List Bool → Nat → List Nat
  | [], _ => []
  | x :: m, k => if x = b then k :: mI b m (k + 1) else mI b m (k + 1)
theorem mI_ge {b : Bool} : ∀ (m : List Bool) (k i : Nat), i ∈ mI b m k → k ≤ i
  | [], _, _, h => absurd h List.not_mem_nil
  | x :: m, k, i, h => by
    by_cases c : x = b
    · rw [mI, if_pos c] at h
      rcases List.mem_cons.mp h with h | h
      · omega
      · have := mI_ge m (k + 1) i h; omega
    · rw [mI, if_neg c] at h
      have := mI_ge m (k + 1) i h; omega
theorem mI_nd {b : Bool} : ∀ (m : List Bool) (k : Nat), va_nd (mI b m k) = true
  | [], _ => rfl
  | x :: m, k => by
    by_cases c : x = b
    · rw [mI, if_pos c, va_nd, Bool.and_eq_true, decide_eq_true_eq]
      exact ⟨fun h => by have := mI_ge m (k + 1) k h; omega, mI_nd m (k + 1)⟩
    · rw [mI, if_neg c]; exact mI_nd m (k + 1)
theorem mI_dis : ∀ (m : List Bool) (k i : Nat), i ∈ mI false m k → i ∉ mI true m k
  | [], _, _, h, _ => absurd h List.not_mem_nil
  | true :: m, k, i, h, h2 => by
    rw [mI, if_neg (by decide)] at h
    rw [mI, if_pos rfl] at h2
    rcases List.mem_cons.mp h2 with h2 | h2
    · have := mI_ge m (k + 1) i h; omega
    · exact mI_dis m (k + 1) i h h2
  | false :: m, k, i, h, h2 => by
    rw [mI, if_pos rfl] at h
    rw [mI, if_neg (by decide)] at h2
    rcases List.mem_cons.mp h with h | h
    · have := mI_ge m (k + 1) i h2; omega
    · exact mI_dis m (k + 1) i h h2
theorem mI_C : ∀ (m : List Bool) (w : va_W) (k : Nat) (f : Nat → Option (Nat × va_E)), m.length = w.length → (∀ i, f (k + i) = w[i]?) → (mI true m k).map f = (mC m w).map some
  | [], [], _, _, _, _ => rfl
  | true :: m, c :: w, k, f, hl, h => by
    rw [mI, if_pos rfl, mC, List.map_cons, List.map_cons, mI_C m w (k + 1) f (Nat.succ.inj hl) (fun i => by rw [Nat.add_assoc, Nat.add_comm 1 i, h (i + 1), List.getElem?_cons_succ])]
    have := h 0
    rw [Nat.add_zero, List.getElem?_cons_zero] at this
    rw [this]
  | false :: m, c :: w, k, f, hl, h => by
    rw [mI, if_neg (by decide), mC, mI_C m w (k + 1) f (Nat.succ.inj hl) (fun i => by rw [Nat.add_assoc, Nat.add_comm 1 i, h (i + 1), List.getElem?_cons_succ])]
theorem mI_R : ∀ (m : List Bool) (w : va_W) (k : Nat) (f : Nat → Option (Nat × va_E)), m.length = w.length → (∀ i, f (k + i) = w[i]?) → (mI false m k).map f = (mR m w).map some
  | [], [], _, _, _, _ => rfl
  | false :: m, c :: w, k, f, hl, h => by
    rw [mI, if_pos rfl, mR, List.map_cons, List.map_cons, mI_R m w (k + 1) f (Nat.succ.inj hl) (fun i => by rw [Nat.add_assoc, Nat.add_comm 1 i, h (i + 1), List.getElem?_cons_succ])]
    have := h 0
    rw [Nat.add_zero, List.getElem?_cons_zero] at this
    rw [this]
  | true :: m, c :: w, k, f, hl, h => by
    rw [mI, if_neg (by decide), mR, mI_R m w (k + 1) f (Nat.succ.inj hl) (fun i => by rw [Nat.add_assoc, Nat.add_comm 1 i, h (i + 1), List.getElem?_cons_succ])]
/-- the places of the merged world's cells in rest ++ callee's -/
def mJ : List Bool → Nat → Nat → List Nat
  | [], _, _ => []
  | true :: m, k, r => k :: mJ m (k + 1) r
  | false :: m, k, r => r :: mJ m k (r + 1)
def nF : List Bool → Nat
  | [] => 0
  | true :: m => nF m
  | false :: m => nF m + 1
theorem mJ_in : ∀ (m : List Bool) (k r i : Nat), i ∈ mJ m k r → (r ≤ i ∧ i < r + nF m) ∨ k ≤ i
  | [], _, _, _, h => absurd h List.not_mem_nil
  | true :: m, k, r, i, h => by
    rw [mJ] at h
    rcases List.mem_cons.mp h with h | h
    · omega
    · have := mJ_in m (k + 1) r i h
      show (r ≤ i ∧ i < r + nF m) ∨ k ≤ i
      omega
  | false :: m, k, r, i, h => by
    rw [mJ] at h
    show (r ≤ i ∧ i < r + (nF m + 1)) ∨ k ≤ i
    rcases List.mem_cons.mp h with h | h
    · omega
    · have := mJ_in m k (r + 1) i h
      omega
theorem mJ_nd : ∀ (m : List Bool) (k r : Nat), r + nF m ≤ k → va_nd (mJ m k r) = true
  | [], _, _, _ => rfl
  | true :: m, k, r, h => by
    have h : r + nF m ≤ k := h
    rw [mJ, va_nd, Bool.and_eq_true, decide_eq_true_eq]
    exact ⟨fun q => by have := mJ_in m (k + 1) r k q; omega, mJ_nd m (k + 1) r (by omega)⟩
  | false :: m, k, r, h => by
    have h : r + (nF m + 1) ≤ k := h
    rw [mJ, va_nd, Bool.and_eq_true, decide_eq_true_eq]
    exact ⟨fun q => by have := mJ_in m k (r + 1) r q; omega, mJ_nd m k (r + 1) (by omega)⟩
theorem mJ_M : ∀ (m : List Bool) (w C R : va_W) (k r : Nat) (f : Nat → Option (Nat × va_E)), m.length = w.length → C.length = (mC m w).length → R.length = (mR m w).length → (∀ i, i < C.length → f (k + i) = C[i]?) → (∀ i, i < R.length → f (r + i) = R[i]?) → (mJ m k r).map f = (mM m C R).map some
  | [], [], _, _, _, _, _, _, _, _, _, _ => rfl
  | true :: m, c :: w, [], R, _, _, _, _, hC, _, _, _ => by rw [mC] at hC; cases hC
  | true :: m, c :: w, c1 :: C, R, k, r, f, hl, hC, hR, h1, h2 => by
    have h0 := h1 0 (Nat.succ_pos _)
    rw [Nat.add_zero, List.getElem?_cons_zero] at h0
    rw [mC] at hC
    rw [mJ, mM, List.map_cons, List.map_cons, h0, mJ_M m w C R (k + 1) r f (Nat.succ.inj hl) (Nat.succ.inj hC) hR (fun i hi => by rw [Nat.add_assoc, Nat.add_comm 1 i, h1 (i + 1) (Nat.succ_lt_succ hi), List.getElem?_cons_succ]) h2]
  | false :: m, c :: w, C, [], _, _, _, _, _, hR, _, _ => by rw [mR] at hR; cases hR
  | false :: m, c :: w, C, c1 :: R, k, r, f, hl, hC, hR, h1, h2 => by
    have h0 := h2 0 (Nat.succ_pos _)
    rw [Nat.add_zero, List.getElem?_cons_zero] at h0
    rw [mR] at hR
    rw [mC] at hC
    have e : mM (false :: m) C (c1 :: R) = c1 :: mM m C R := by cases C <;> rfl
    rw [mJ, e, List.map_cons, List.map_cons, h0, mJ_M m w C R k (r + 1) f (Nat.succ.inj hl) hC (Nat.succ.inj hR) h1 (fun i hi => by rw [Nat.add_assoc, Nat.add_comm 1 i, h2 (i + 1) (Nat.succ_lt_succ hi), List.getElem?_cons_succ])]
def nC : List Bool → Nat
  | [] => 0
  | true :: m => nC m + 1
  | false :: m => nC m
theorem nC_len : ∀ (m : List Bool) (w : va_W), m.length = w.length → (mC m w).length = nC m
  | [], [], _ => rfl
  | false :: m, c :: w, h => nC_len m w (Nat.succ.inj h)
  | true :: m, c :: w, h => by
    show (mC m w).length + 1 = nC m + 1
    rw [nC_len m w (Nat.succ.inj h)]
theorem nF_len : ∀ (m : List Bool) (w : va_W), m.length = w.length → (mR m w).length = nF m
  | [], [], _ => rfl
  | true :: m, c :: w, h => nF_len m w (Nat.succ.inj h)
  | false :: m, c :: w, h => by
    show (mR m w).length + 1 = nF m + 1
    rw [nF_len m w (Nat.succ.inj h)]
theorem pd_merge {D : va_G} {A : Nat → Prop} {w C : va_W} {H : Heap} {m : List Bool} (hm : m.length = w.length) (hC : C.length = (mC m w).length) (h : PD D A (mR m w ++ C) H) : PD D A (mM m C (mR m w)) H := by
  have hx : (mJ m (mR m w).length 0).map (fun i => (mR m w ++ C)[i]?) = (mM m C (mR m w)).map some := mJ_M m w C (mR m w) (mR m w).length 0 _ hm hC rfl (fun i hi => by rw [List.getElem?_append_right (Nat.le_add_right _ _), Nat.add_sub_cancel_left]) (fun i hi => by rw [Nat.zero_add, List.getElem?_append_left hi])
  exact ⟨h.1.sub _ (fm_of_map hx), h.2.sub _ (mJ_nd _ _ _ (by rw [nF_len m w hm]; omega)) hx⟩
section KCM
variable {p : Program} {l : Launch} {e : Env} {R : Room} {s : State} {m : MethodId} {args : Array Value} {below : List Frame} {meth : Method} {c : Code} {H : Heap} {locs : List Loc} {cells slots : Nat} {Q : State → Prop}
variable {β pc : Nat} {ls : Array Slot} {rest st0 : List Value} {a : Array Value} {A : Nat → Prop} {H0 : Heap} {mc ms : Nat} {D : va_G} {ws : va_W}
theorem kcm_i {S : Type} {post : Int32 → S → Prop} {W1 : S → va_W} (hA : ∀ q, H0.size ≤ q → A q) (hAB : ∀ q, A q → β ≤ q) (hP : va_P D vwCl ws H) (hD : va_D A ws) (hS : va_S A H0 H locs) (m9 : List Bool) (hm : m9.length = ws.length) (hl : ∀ u, (W1 u).length = nC m9)
    (hr : va_P D vwCl (mC m9 ws) H → va_D (fun q => β ≤ q) (mC m9 ws) → va_Run p l e R s m args below meth c H locs cells slots mc ms (F0 m pc ls st0) rest (QiK D post W1 (mC m9 ws) H.size a) (va_A (mC m9 ws) H.size))
    (kk : ∀ (r : Int32) (u : S) (H1 : Heap) (locs1 : List Loc), post r u → PD D A (mM m9 (W1 u) (mR m9 ws)) H1 → va_S A H0 H1 locs1 → W p l e R s m args below meth c H1 locs1 (cells + mc) (slots + ms) Q (F0 m (pc + 3) ls (.int r :: rest))) : W p l e R s m args below meth c H locs cells slots Q (F0 m pc ls st0) :=
  kc_i hA hAB hP hD hS (mI true m9 0) (mI false m9 0) (mI_C m9 ws 0 _ hm (fun i => by rw [Nat.zero_add])) (mI_R m9 ws 0 _ hm (fun i => by rw [Nat.zero_add])) (mI_nd m9 0) (mI_nd m9 0) (mI_dis m9 0) hr (fun r u H1 locs1 hw h1 h2 h3 => kk r u H1 locs1 hw (pd_merge hm ((hl u).trans (nC_len m9 ws hm).symm) ⟨h1, h2⟩) h3)
theorem kcm_l {S : Type} {post : Int64 → S → Prop} {W1 : S → va_W} (hA : ∀ q, H0.size ≤ q → A q) (hAB : ∀ q, A q → β ≤ q) (hP : va_P D vwCl ws H) (hD : va_D A ws) (hS : va_S A H0 H locs) (m9 : List Bool) (hm : m9.length = ws.length) (hl : ∀ u, (W1 u).length = nC m9)
    (hr : va_P D vwCl (mC m9 ws) H → va_D (fun q => β ≤ q) (mC m9 ws) → va_Run p l e R s m args below meth c H locs cells slots mc ms (F0 m pc ls st0) rest (QlK D post W1 (mC m9 ws) H.size a) (va_A (mC m9 ws) H.size))
    (kk : ∀ (r : Int64) (u : S) (H1 : Heap) (locs1 : List Loc), post r u → PD D A (mM m9 (W1 u) (mR m9 ws)) H1 → va_S A H0 H1 locs1 → W p l e R s m args below meth c H1 locs1 (cells + mc) (slots + ms) Q (F0 m (pc + 3) ls (.long r :: rest))) : W p l e R s m args below meth c H locs cells slots Q (F0 m pc ls st0) :=
  kc_l hA hAB hP hD hS (mI true m9 0) (mI false m9 0) (mI_C m9 ws 0 _ hm (fun i => by rw [Nat.zero_add])) (mI_R m9 ws 0 _ hm (fun i => by rw [Nat.zero_add])) (mI_nd m9 0) (mI_nd m9 0) (mI_dis m9 0) hr (fun r u H1 locs1 hw h1 h2 h3 => kk r u H1 locs1 hw (pd_merge hm ((hl u).trans (nC_len m9 ws hm).symm) ⟨h1, h2⟩) h3)
theorem kcm_v {S : Type} {post : S → Prop} {W1 : S → va_W} (hA : ∀ q, H0.size ≤ q → A q) (hAB : ∀ q, A q → β ≤ q) (hP : va_P D vwCl ws H) (hD : va_D A ws) (hS : va_S A H0 H locs) (m9 : List Bool) (hm : m9.length = ws.length) (hl : ∀ u, (W1 u).length = nC m9)
    (hr : va_P D vwCl (mC m9 ws) H → va_D (fun q => β ≤ q) (mC m9 ws) → va_Run p l e R s m args below meth c H locs cells slots mc ms (F0 m pc ls st0) rest (QvK D post W1 (mC m9 ws) H.size a) (va_A (mC m9 ws) H.size))
    (kk : ∀ (u : S) (H1 : Heap) (locs1 : List Loc), post u → PD D A (mM m9 (W1 u) (mR m9 ws)) H1 → va_S A H0 H1 locs1 → W p l e R s m args below meth c H1 locs1 (cells + mc) (slots + ms) Q (F0 m (pc + 3) ls rest)) : W p l e R s m args below meth c H locs cells slots Q (F0 m pc ls st0) :=
  kc_v hA hAB hP hD hS (mI true m9 0) (mI false m9 0) (mI_C m9 ws 0 _ hm (fun i => by rw [Nat.zero_add])) (mI_R m9 ws 0 _ hm (fun i => by rw [Nat.zero_add])) (mI_nd m9 0) (mI_nd m9 0) (mI_dis m9 0) hr (fun u H1 locs1 hw h1 h2 h3 => kk u H1 locs1 hw (pd_merge hm ((hl u).trans (nC_len m9 ws hm).symm) ⟨h1, h2⟩) h3)
end KCM
