theorem goodIn_c {big : List Cond} {chs : List (List Cond)} (hb : chs.flatten = big) (ws : List Cond) (ps : List (Nat × Nat)) (hp : ws = ps.filterMap (fun q => (chs[q.1]?).bind (fun ch => ch[q.2]?))) (h : ws.all goodWord = true) : GoodIn big ws := by
  intro w hw
  have h1 := List.all_eq_true.mp h w hw
  rw [hp] at hw
  obtain ⟨q, -, hq⟩ := List.mem_filterMap.mp hw
  obtain ⟨ch, hc, hi⟩ := Option.bind_eq_some_iff.mp hq
  rw [← hb]
  exact ⟨List.mem_flatten.mpr ⟨ch, List.mem_of_getElem? hc, List.mem_of_getElem? hi⟩, good_of_word h1⟩
theorem goodIn_g {big : List Cond} {chs : List (List Cond)} (hb : chs.flatten = big) (hg : big.all goodWord = true) (ws : List Cond) (ps : List (Nat × Nat)) (hp : ws = ps.filterMap (fun q => (chs[q.1]?).bind (fun ch => ch[q.2]?))) : GoodIn big ws := by
  intro w hw
  rw [hp] at hw
  obtain ⟨q, -, hq⟩ := List.mem_filterMap.mp hw
  obtain ⟨ch, hc, hi⟩ := Option.bind_eq_some_iff.mp hq
  have hm : w ∈ big := by
    rw [← hb]
    exact List.mem_flatten.mpr ⟨ch, List.mem_of_getElem? hc, List.mem_of_getElem? hi⟩
  exact ⟨hm, good_of_word (List.all_eq_true.mp hg w hm)⟩
theorem gcons {big l : List Cond} {x : Cond} (h1 : GoodIn big [x]) (h2 : GoodIn big l) : GoodIn big (x :: l) := fun w hw => by
  rcases List.mem_cons.mp hw with e | e
  · exact h1 w (List.mem_cons.mpr (Or.inl e))
  · exact h2 w e
theorem gchunk {big ch : List Cond} {chs : List (List Cond)} (hb : chs.flatten = big) (hg : big.all goodWord = true) (k : Nat) (hk : chs[k]? = some ch) : GoodIn big ch := fun w hw => by
  have hm : w ∈ big := by
    rw [← hb]
    exact List.mem_flatten.mpr ⟨ch, List.mem_of_getElem? hk, hw⟩
  exact ⟨hm, good_of_word (List.all_eq_true.mp hg w hm)⟩
/-! decode rows by the bytes that they rest on -/
def gb (c : ByteArray) (p : Nat) : Option Nat := if h : p < c.size then some (c[p]'h).toNat else none
theorem gb_some {c : ByteArray} {p n : Nat} (h : gb c p = some n) : ∃ hp : p < c.size, (c[p]'hp).toNat = n := by
  unfold gb at h
  by_cases hp : p < c.size
  · rw [dif_pos hp] at h; exact ⟨hp, Option.some.inj h⟩
  · rw [dif_neg hp] at h; cases h
theorem rd_bind {α β : Type} {r : Jvm.ClassFile.Decoder α} {f : α → Jvm.ClassFile.Decoder β} {c : ByteArray} {p p' : Nat} {a : α} {q : Except Jvm.ClassFile.DecodeError (β × Nat)} (h : Jvm.ClassFile.Reader.runAt r c p = .ok (a, p')) (h2 : Jvm.ClassFile.Reader.runAt (f a) c p' = q) : Jvm.ClassFile.Reader.runAt (r >>= f) c p = q := by
  rw [← h2]
  show Except.bind (Jvm.ClassFile.Reader.runAt r c p) (fun x => Jvm.ClassFile.Reader.runAt (f x.1) c x.2) = _
  rw [h]; rfl
theorem rd_map {α β : Type} {r : Jvm.ClassFile.Decoder α} {f : α → β} {c : ByteArray} {p p' : Nat} {a : α} (h : Jvm.ClassFile.Reader.runAt r c p = .ok (a, p')) : Jvm.ClassFile.Reader.runAt (f <$> r) c p = .ok (f a, p') := by
  show Except.bind (Jvm.ClassFile.Reader.runAt r c p) (fun x => Except.ok (f x.1, x.2)) = _
  rw [h]; rfl
theorem rd_u1 {c : ByteArray} {p n : Nat} (h : gb c p = some n) : Jvm.ClassFile.Reader.runAt (Jvm.ClassFile.Reader.u1 : Jvm.ClassFile.Decoder Nat) c p = .ok (n, p + 1) := by
  obtain ⟨hp, hv⟩ := gb_some h
  have e : Jvm.ClassFile.Reader.runAt (Jvm.ClassFile.Reader.u1 : Jvm.ClassFile.Decoder Nat) c p = (if h : p < c.size then Except.ok ((c[p]'h).toNat, p + 1) else Except.error (Jvm.ClassFile.DecodeError.truncated p)) := by
    unfold Jvm.ClassFile.Reader.u1
    by_cases q : p < c.size
    · rw [dif_pos q]
      show (if h : p < c.size then (do set (p + 1); pure (c[p]'h).toNat : Jvm.ClassFile.Decoder Nat) else throw _) c p = _
      rw [dif_pos q]; rfl
    · exact absurd hp q
  rw [e, dif_pos hp, hv]
theorem rd_u2 {c : ByteArray} {p a b : Nat} (h1 : gb c p = some a) (h2 : gb c (p + 1) = some b) : Jvm.ClassFile.Reader.runAt (Jvm.ClassFile.Reader.u2 : Jvm.ClassFile.Decoder Nat) c p = .ok (a * 256 + b, p + 2) := rd_bind (rd_u1 h1) (rd_bind (rd_u1 h2) rfl)
theorem rd_dec {c : ByteArray} {pc n : Nat} {I : Jvm.ClassFile.Instr} (e : Jvm.ClassFile.Reader.runAt (Jvm.ClassFile.Decoder.instr pc) c pc = .ok (I, pc + n)) : decode c pc = .ok (I, n) := by
  unfold decode
  rw [e]
  show Except.ok (I, pc + n - pc) = _
  rw [Nat.add_sub_cancel_left]
/-- a code's bytes as lists of 64 -/
def segF (S : List (List Nat)) (p : Nat) : Option Nat := (S[p / 64]?).bind (fun s => s[p % 64]?)
def segU : List (List Nat) → Bool
  | [] => true
  | [_] => true
  | s :: r => s.length == 64 && segU r
theorem seg_flat : ∀ (S : List (List Nat)), segU S = true → (∀ s ∈ S, s.length ≤ 64) → ∀ p : Nat, S.flatten[p]? = segF S p
  | [], _, _, p => by simp [segF]
  | [s], _, h, p => by
    have hs := h s List.mem_cons_self
    rw [List.flatten_cons, List.flatten_nil, List.append_nil]
    by_cases hp : p < 64
    · unfold segF
      rw [Nat.div_eq_of_lt hp, Nat.mod_eq_of_lt hp]; rfl
    · rw [List.getElem?_eq_none (by omega)]
      unfold segF
      rw [List.getElem?_eq_none (l := [s]) (by show 1 ≤ _; omega)]; rfl
  | s :: s2 :: r, hu, h, p => by
    have h1 : s.length = 64 := by
      have := (Bool.and_eq_true_iff.mp (hu)).1
      exact eq_of_beq this
    have h2 : segU (s2 :: r) = true := (Bool.and_eq_true_iff.mp (hu)).2
    rw [List.flatten_cons]
    by_cases hp : p < 64
    · rw [List.getElem?_append_left (by omega)]
      unfold segF
      rw [Nat.div_eq_of_lt hp, Nat.mod_eq_of_lt hp]; rfl
    · rw [List.getElem?_append_right (by omega), h1, seg_flat (s2 :: r) h2 (fun q hq => h q (List.mem_cons_of_mem _ hq)) (p - 64)]
      unfold segF
      have e1 : p / 64 = (p - 64) / 64 + 1 := by omega
      have e2 : p % 64 = (p - 64) % 64 := by omega
      rw [e1, e2, List.getElem?_cons_succ]
theorem gb_list (c : ByteArray) (p : Nat) : gb c p = (c.data.toList.map UInt8.toNat)[p]? := by
  unfold gb
  by_cases hp : p < c.size
  · rw [dif_pos hp, List.getElem?_map, Array.getElem?_toList]
    rw [Array.getElem?_eq_getElem (by exact hp)]; rfl
  · rw [dif_neg hp, List.getElem?_map, Array.getElem?_toList]
    rw [Array.getElem?_eq_none (by exact Nat.le_of_not_lt hp)]; rfl
theorem seg_gb {c : ByteArray} {S : List (List Nat)} (hs : c.data.toList.map UInt8.toNat = S.flatten) (hu : (segU S && S.all (fun s => decide (s.length ≤ 64))) = true) (p : Nat) : gb c p = segF S p := by
  have h := (Bool.and_eq_true_iff.mp (hu))
  rw [gb_list, hs]
  exact seg_flat S h.1 (fun s q => of_decide_eq_true (List.all_eq_true.mp h.2 s q)) p
theorem seg_1 {c : ByteArray} {S : List (List Nat)} (h : ∀ p, gb c p = segF S p) (L : List (Nat × Nat)) (hL : L.all (fun q => segF S q.1 == some q.2) = true) : ∀ q ∈ L, gb c q.1 = some q.2 := fun q hq => by
  rw [h]; exact eq_of_beq (List.all_eq_true.mp hL q hq)
theorem seg_2 {c : ByteArray} {S : List (List Nat)} (h : ∀ p, gb c p = segF S p) (L : List (Nat × Nat × Nat)) (hL : L.all (fun q => segF S q.1 == some q.2.1 && segF S (q.1 + 1) == some q.2.2) = true) : ∀ q ∈ L, gb c q.1 = some q.2.1 ∧ gb c (q.1 + 1) = some q.2.2 := fun q hq => by
  have z := List.all_eq_true.mp hL q hq
  have z2 := (Bool.and_eq_true_iff.mp (z))
  rw [h, h]; exact ⟨eq_of_beq z2.1, eq_of_beq z2.2⟩
theorem seg_3 {c : ByteArray} {S : List (List Nat)} (h : ∀ p, gb c p = segF S p) (L : List (Nat × Nat × Nat × Nat)) (hL : L.all (fun q => segF S q.1 == some q.2.1 && (segF S (q.1 + 1) == some q.2.2.1 && segF S (q.1 + 2) == some q.2.2.2)) = true) : ∀ q ∈ L, gb c q.1 = some q.2.1 ∧ gb c (q.1 + 1) = some q.2.2.1 ∧ gb c (q.1 + 2) = some q.2.2.2 := fun q hq => by
  have z := List.all_eq_true.mp hL q hq
  have z2 := (Bool.and_eq_true_iff.mp (z))
  have z3 := (Bool.and_eq_true_iff.mp (z2.2))
  rw [h, h, h]; exact ⟨eq_of_beq z2.1, eq_of_beq z3.1, eq_of_beq z3.2⟩

theorem dk2 {c : ByteArray} {pc : Nat} (h : gb c pc = some 2) : decode c pc = .ok (.iconst (-1), 1) := rd_dec (rd_bind (rd_u1 h) rfl)
theorem dk3 {c : ByteArray} {pc : Nat} (h : gb c pc = some 3) : decode c pc = .ok (.iconst 0, 1) := rd_dec (rd_bind (rd_u1 h) rfl)
theorem dk4 {c : ByteArray} {pc : Nat} (h : gb c pc = some 4) : decode c pc = .ok (.iconst 1, 1) := rd_dec (rd_bind (rd_u1 h) rfl)
theorem dk5 {c : ByteArray} {pc : Nat} (h : gb c pc = some 5) : decode c pc = .ok (.iconst 2, 1) := rd_dec (rd_bind (rd_u1 h) rfl)
theorem dk6 {c : ByteArray} {pc : Nat} (h : gb c pc = some 6) : decode c pc = .ok (.iconst 3, 1) := rd_dec (rd_bind (rd_u1 h) rfl)
theorem dk7 {c : ByteArray} {pc : Nat} (h : gb c pc = some 7) : decode c pc = .ok (.iconst 4, 1) := rd_dec (rd_bind (rd_u1 h) rfl)
theorem dk8 {c : ByteArray} {pc : Nat} (h : gb c pc = some 8) : decode c pc = .ok (.iconst 5, 1) := rd_dec (rd_bind (rd_u1 h) rfl)
theorem dk9 {c : ByteArray} {pc : Nat} (h : gb c pc = some 9) : decode c pc = .ok (.lconst 0, 1) := rd_dec (rd_bind (rd_u1 h) rfl)
theorem dk10 {c : ByteArray} {pc : Nat} (h : gb c pc = some 10) : decode c pc = .ok (.lconst 1, 1) := rd_dec (rd_bind (rd_u1 h) rfl)
theorem dk16 {c : ByteArray} {pc : Nat} (a : Nat) (h : gb c pc = some 16 ∧ gb c (pc + 1) = some a) : decode c pc = .ok (.bipush (Jvm.ClassFile.Reader.signed 8 a), 2) := rd_dec (rd_bind (rd_u1 h.1) (rd_bind (rd_map (rd_u1 h.2)) rfl))
theorem dk17 {c : ByteArray} {pc : Nat} (a b : Nat) (h : gb c pc = some 17 ∧ gb c (pc + 1) = some a ∧ gb c (pc + 2) = some b) : decode c pc = .ok (.sipush (Jvm.ClassFile.Reader.signed 16 (a * 256 + b)), 3) := rd_dec (rd_bind (rd_u1 h.1) (rd_bind (rd_map (rd_u2 h.2.1 h.2.2)) rfl))
theorem dk18 {c : ByteArray} {pc : Nat} (a : Nat) (h : gb c pc = some 18 ∧ gb c (pc + 1) = some a) : decode c pc = .ok (.ldc a, 2) := rd_dec (rd_bind (rd_u1 h.1) (rd_bind (rd_u1 h.2) rfl))
theorem dk19 {c : ByteArray} {pc : Nat} (a b : Nat) (h : gb c pc = some 19 ∧ gb c (pc + 1) = some a ∧ gb c (pc + 2) = some b) : decode c pc = .ok (.ldc_w (a * 256 + b), 3) := rd_dec (rd_bind (rd_u1 h.1) (rd_bind (rd_u2 h.2.1 h.2.2) rfl))
theorem dk20 {c : ByteArray} {pc : Nat} (a b : Nat) (h : gb c pc = some 20 ∧ gb c (pc + 1) = some a ∧ gb c (pc + 2) = some b) : decode c pc = .ok (.ldc2_w (a * 256 + b), 3) := rd_dec (rd_bind (rd_u1 h.1) (rd_bind (rd_u2 h.2.1 h.2.2) rfl))
theorem dk21 {c : ByteArray} {pc : Nat} (a : Nat) (h : gb c pc = some 21 ∧ gb c (pc + 1) = some a) : decode c pc = .ok (.iload a, 2) := rd_dec (rd_bind (rd_u1 h.1) (rd_bind (rd_u1 h.2) rfl))
theorem dk22 {c : ByteArray} {pc : Nat} (a : Nat) (h : gb c pc = some 22 ∧ gb c (pc + 1) = some a) : decode c pc = .ok (.lload a, 2) := rd_dec (rd_bind (rd_u1 h.1) (rd_bind (rd_u1 h.2) rfl))
theorem dk25 {c : ByteArray} {pc : Nat} (a : Nat) (h : gb c pc = some 25 ∧ gb c (pc + 1) = some a) : decode c pc = .ok (.aload a, 2) := rd_dec (rd_bind (rd_u1 h.1) (rd_bind (rd_u1 h.2) rfl))
theorem dk26 {c : ByteArray} {pc : Nat} (h : gb c pc = some 26) : decode c pc = .ok (.iload_n 0, 1) := rd_dec (rd_bind (rd_u1 h) rfl)
theorem dk27 {c : ByteArray} {pc : Nat} (h : gb c pc = some 27) : decode c pc = .ok (.iload_n 1, 1) := rd_dec (rd_bind (rd_u1 h) rfl)
theorem dk28 {c : ByteArray} {pc : Nat} (h : gb c pc = some 28) : decode c pc = .ok (.iload_n 2, 1) := rd_dec (rd_bind (rd_u1 h) rfl)
theorem dk29 {c : ByteArray} {pc : Nat} (h : gb c pc = some 29) : decode c pc = .ok (.iload_n 3, 1) := rd_dec (rd_bind (rd_u1 h) rfl)
theorem dk30 {c : ByteArray} {pc : Nat} (h : gb c pc = some 30) : decode c pc = .ok (.lload_n 0, 1) := rd_dec (rd_bind (rd_u1 h) rfl)
theorem dk31 {c : ByteArray} {pc : Nat} (h : gb c pc = some 31) : decode c pc = .ok (.lload_n 1, 1) := rd_dec (rd_bind (rd_u1 h) rfl)
theorem dk32 {c : ByteArray} {pc : Nat} (h : gb c pc = some 32) : decode c pc = .ok (.lload_n 2, 1) := rd_dec (rd_bind (rd_u1 h) rfl)
theorem dk33 {c : ByteArray} {pc : Nat} (h : gb c pc = some 33) : decode c pc = .ok (.lload_n 3, 1) := rd_dec (rd_bind (rd_u1 h) rfl)
theorem dk42 {c : ByteArray} {pc : Nat} (h : gb c pc = some 42) : decode c pc = .ok (.aload_n 0, 1) := rd_dec (rd_bind (rd_u1 h) rfl)
theorem dk43 {c : ByteArray} {pc : Nat} (h : gb c pc = some 43) : decode c pc = .ok (.aload_n 1, 1) := rd_dec (rd_bind (rd_u1 h) rfl)
theorem dk44 {c : ByteArray} {pc : Nat} (h : gb c pc = some 44) : decode c pc = .ok (.aload_n 2, 1) := rd_dec (rd_bind (rd_u1 h) rfl)
theorem dk45 {c : ByteArray} {pc : Nat} (h : gb c pc = some 45) : decode c pc = .ok (.aload_n 3, 1) := rd_dec (rd_bind (rd_u1 h) rfl)
theorem dk46 {c : ByteArray} {pc : Nat} (h : gb c pc = some 46) : decode c pc = .ok (.iaload, 1) := rd_dec (rd_bind (rd_u1 h) rfl)
theorem dk47 {c : ByteArray} {pc : Nat} (h : gb c pc = some 47) : decode c pc = .ok (.laload, 1) := rd_dec (rd_bind (rd_u1 h) rfl)
theorem dk50 {c : ByteArray} {pc : Nat} (h : gb c pc = some 50) : decode c pc = .ok (.aaload, 1) := rd_dec (rd_bind (rd_u1 h) rfl)
theorem dk51 {c : ByteArray} {pc : Nat} (h : gb c pc = some 51) : decode c pc = .ok (.baload, 1) := rd_dec (rd_bind (rd_u1 h) rfl)
theorem dk54 {c : ByteArray} {pc : Nat} (a : Nat) (h : gb c pc = some 54 ∧ gb c (pc + 1) = some a) : decode c pc = .ok (.istore a, 2) := rd_dec (rd_bind (rd_u1 h.1) (rd_bind (rd_u1 h.2) rfl))
theorem dk58 {c : ByteArray} {pc : Nat} (a : Nat) (h : gb c pc = some 58 ∧ gb c (pc + 1) = some a) : decode c pc = .ok (.astore a, 2) := rd_dec (rd_bind (rd_u1 h.1) (rd_bind (rd_u1 h.2) rfl))
theorem dk59 {c : ByteArray} {pc : Nat} (h : gb c pc = some 59) : decode c pc = .ok (.istore_n 0, 1) := rd_dec (rd_bind (rd_u1 h) rfl)
theorem dk60 {c : ByteArray} {pc : Nat} (h : gb c pc = some 60) : decode c pc = .ok (.istore_n 1, 1) := rd_dec (rd_bind (rd_u1 h) rfl)
theorem dk61 {c : ByteArray} {pc : Nat} (h : gb c pc = some 61) : decode c pc = .ok (.istore_n 2, 1) := rd_dec (rd_bind (rd_u1 h) rfl)
theorem dk62 {c : ByteArray} {pc : Nat} (h : gb c pc = some 62) : decode c pc = .ok (.istore_n 3, 1) := rd_dec (rd_bind (rd_u1 h) rfl)
theorem dk64 {c : ByteArray} {pc : Nat} (h : gb c pc = some 64) : decode c pc = .ok (.lstore_n 1, 1) := rd_dec (rd_bind (rd_u1 h) rfl)
theorem dk65 {c : ByteArray} {pc : Nat} (h : gb c pc = some 65) : decode c pc = .ok (.lstore_n 2, 1) := rd_dec (rd_bind (rd_u1 h) rfl)
theorem dk76 {c : ByteArray} {pc : Nat} (h : gb c pc = some 76) : decode c pc = .ok (.astore_n 1, 1) := rd_dec (rd_bind (rd_u1 h) rfl)
theorem dk77 {c : ByteArray} {pc : Nat} (h : gb c pc = some 77) : decode c pc = .ok (.astore_n 2, 1) := rd_dec (rd_bind (rd_u1 h) rfl)
theorem dk79 {c : ByteArray} {pc : Nat} (h : gb c pc = some 79) : decode c pc = .ok (.iastore, 1) := rd_dec (rd_bind (rd_u1 h) rfl)
theorem dk80 {c : ByteArray} {pc : Nat} (h : gb c pc = some 80) : decode c pc = .ok (.lastore, 1) := rd_dec (rd_bind (rd_u1 h) rfl)
theorem dk83 {c : ByteArray} {pc : Nat} (h : gb c pc = some 83) : decode c pc = .ok (.aastore, 1) := rd_dec (rd_bind (rd_u1 h) rfl)
theorem dk84 {c : ByteArray} {pc : Nat} (h : gb c pc = some 84) : decode c pc = .ok (.bastore, 1) := rd_dec (rd_bind (rd_u1 h) rfl)
theorem dk87 {c : ByteArray} {pc : Nat} (h : gb c pc = some 87) : decode c pc = .ok (.pop, 1) := rd_dec (rd_bind (rd_u1 h) rfl)
theorem dk88 {c : ByteArray} {pc : Nat} (h : gb c pc = some 88) : decode c pc = .ok (.pop2, 1) := rd_dec (rd_bind (rd_u1 h) rfl)
theorem dk89 {c : ByteArray} {pc : Nat} (h : gb c pc = some 89) : decode c pc = .ok (.dup, 1) := rd_dec (rd_bind (rd_u1 h) rfl)
theorem dk90 {c : ByteArray} {pc : Nat} (h : gb c pc = some 90) : decode c pc = .ok (.dup_x1, 1) := rd_dec (rd_bind (rd_u1 h) rfl)
theorem dk92 {c : ByteArray} {pc : Nat} (h : gb c pc = some 92) : decode c pc = .ok (.dup2, 1) := rd_dec (rd_bind (rd_u1 h) rfl)
theorem dk96 {c : ByteArray} {pc : Nat} (h : gb c pc = some 96) : decode c pc = .ok (.iadd, 1) := rd_dec (rd_bind (rd_u1 h) rfl)
theorem dk97 {c : ByteArray} {pc : Nat} (h : gb c pc = some 97) : decode c pc = .ok (.ladd, 1) := rd_dec (rd_bind (rd_u1 h) rfl)
theorem dk100 {c : ByteArray} {pc : Nat} (h : gb c pc = some 100) : decode c pc = .ok (.isub, 1) := rd_dec (rd_bind (rd_u1 h) rfl)
theorem dk104 {c : ByteArray} {pc : Nat} (h : gb c pc = some 104) : decode c pc = .ok (.imul, 1) := rd_dec (rd_bind (rd_u1 h) rfl)
theorem dk105 {c : ByteArray} {pc : Nat} (h : gb c pc = some 105) : decode c pc = .ok (.lmul, 1) := rd_dec (rd_bind (rd_u1 h) rfl)
theorem dk108 {c : ByteArray} {pc : Nat} (h : gb c pc = some 108) : decode c pc = .ok (.idiv, 1) := rd_dec (rd_bind (rd_u1 h) rfl)
theorem dk109 {c : ByteArray} {pc : Nat} (h : gb c pc = some 109) : decode c pc = .ok (.ldiv, 1) := rd_dec (rd_bind (rd_u1 h) rfl)
theorem dk112 {c : ByteArray} {pc : Nat} (h : gb c pc = some 112) : decode c pc = .ok (.irem, 1) := rd_dec (rd_bind (rd_u1 h) rfl)
theorem dk116 {c : ByteArray} {pc : Nat} (h : gb c pc = some 116) : decode c pc = .ok (.ineg, 1) := rd_dec (rd_bind (rd_u1 h) rfl)
theorem dk120 {c : ByteArray} {pc : Nat} (h : gb c pc = some 120) : decode c pc = .ok (.ishl, 1) := rd_dec (rd_bind (rd_u1 h) rfl)
theorem dk121 {c : ByteArray} {pc : Nat} (h : gb c pc = some 121) : decode c pc = .ok (.lshl, 1) := rd_dec (rd_bind (rd_u1 h) rfl)
theorem dk122 {c : ByteArray} {pc : Nat} (h : gb c pc = some 122) : decode c pc = .ok (.ishr, 1) := rd_dec (rd_bind (rd_u1 h) rfl)
theorem dk124 {c : ByteArray} {pc : Nat} (h : gb c pc = some 124) : decode c pc = .ok (.iushr, 1) := rd_dec (rd_bind (rd_u1 h) rfl)
theorem dk126 {c : ByteArray} {pc : Nat} (h : gb c pc = some 126) : decode c pc = .ok (.iand, 1) := rd_dec (rd_bind (rd_u1 h) rfl)
theorem dk127 {c : ByteArray} {pc : Nat} (h : gb c pc = some 127) : decode c pc = .ok (.land, 1) := rd_dec (rd_bind (rd_u1 h) rfl)
theorem dk128 {c : ByteArray} {pc : Nat} (h : gb c pc = some 128) : decode c pc = .ok (.ior, 1) := rd_dec (rd_bind (rd_u1 h) rfl)
theorem dk129 {c : ByteArray} {pc : Nat} (h : gb c pc = some 129) : decode c pc = .ok (.lor, 1) := rd_dec (rd_bind (rd_u1 h) rfl)
theorem dk130 {c : ByteArray} {pc : Nat} (h : gb c pc = some 130) : decode c pc = .ok (.ixor, 1) := rd_dec (rd_bind (rd_u1 h) rfl)
theorem dk132 {c : ByteArray} {pc : Nat} (a b : Nat) (h : gb c pc = some 132 ∧ gb c (pc + 1) = some a ∧ gb c (pc + 2) = some b) : decode c pc = .ok (.iinc a (Jvm.ClassFile.Reader.signed 8 b), 3) := rd_dec (rd_bind (rd_u1 h.1) (rd_bind (rd_u1 h.2.1) (rd_bind (rd_map (rd_u1 h.2.2)) rfl)))
theorem dk133 {c : ByteArray} {pc : Nat} (h : gb c pc = some 133) : decode c pc = .ok (.i2l, 1) := rd_dec (rd_bind (rd_u1 h) rfl)
theorem dk136 {c : ByteArray} {pc : Nat} (h : gb c pc = some 136) : decode c pc = .ok (.l2i, 1) := rd_dec (rd_bind (rd_u1 h) rfl)
theorem dk145 {c : ByteArray} {pc : Nat} (h : gb c pc = some 145) : decode c pc = .ok (.i2b, 1) := rd_dec (rd_bind (rd_u1 h) rfl)
theorem dk146 {c : ByteArray} {pc : Nat} (h : gb c pc = some 146) : decode c pc = .ok (.i2c, 1) := rd_dec (rd_bind (rd_u1 h) rfl)
theorem dk147 {c : ByteArray} {pc : Nat} (h : gb c pc = some 147) : decode c pc = .ok (.i2s, 1) := rd_dec (rd_bind (rd_u1 h) rfl)
theorem dk148 {c : ByteArray} {pc : Nat} (h : gb c pc = some 148) : decode c pc = .ok (.lcmp, 1) := rd_dec (rd_bind (rd_u1 h) rfl)
theorem dk153 {c : ByteArray} {pc : Nat} (a b : Nat) (h : gb c pc = some 153 ∧ gb c (pc + 1) = some a ∧ gb c (pc + 2) = some b) : decode c pc = .ok (.ifCond .eq (Jvm.ClassFile.Reader.signed 16 (a * 256 + b)), 3) := rd_dec (rd_bind (rd_u1 h.1) (rd_bind (rd_map (rd_u2 h.2.1 h.2.2)) rfl))
theorem dk154 {c : ByteArray} {pc : Nat} (a b : Nat) (h : gb c pc = some 154 ∧ gb c (pc + 1) = some a ∧ gb c (pc + 2) = some b) : decode c pc = .ok (.ifCond .ne (Jvm.ClassFile.Reader.signed 16 (a * 256 + b)), 3) := rd_dec (rd_bind (rd_u1 h.1) (rd_bind (rd_map (rd_u2 h.2.1 h.2.2)) rfl))
theorem dk155 {c : ByteArray} {pc : Nat} (a b : Nat) (h : gb c pc = some 155 ∧ gb c (pc + 1) = some a ∧ gb c (pc + 2) = some b) : decode c pc = .ok (.ifCond .lt (Jvm.ClassFile.Reader.signed 16 (a * 256 + b)), 3) := rd_dec (rd_bind (rd_u1 h.1) (rd_bind (rd_map (rd_u2 h.2.1 h.2.2)) rfl))
theorem dk156 {c : ByteArray} {pc : Nat} (a b : Nat) (h : gb c pc = some 156 ∧ gb c (pc + 1) = some a ∧ gb c (pc + 2) = some b) : decode c pc = .ok (.ifCond .ge (Jvm.ClassFile.Reader.signed 16 (a * 256 + b)), 3) := rd_dec (rd_bind (rd_u1 h.1) (rd_bind (rd_map (rd_u2 h.2.1 h.2.2)) rfl))
theorem dk157 {c : ByteArray} {pc : Nat} (a b : Nat) (h : gb c pc = some 157 ∧ gb c (pc + 1) = some a ∧ gb c (pc + 2) = some b) : decode c pc = .ok (.ifCond .gt (Jvm.ClassFile.Reader.signed 16 (a * 256 + b)), 3) := rd_dec (rd_bind (rd_u1 h.1) (rd_bind (rd_map (rd_u2 h.2.1 h.2.2)) rfl))
theorem dk158 {c : ByteArray} {pc : Nat} (a b : Nat) (h : gb c pc = some 158 ∧ gb c (pc + 1) = some a ∧ gb c (pc + 2) = some b) : decode c pc = .ok (.ifCond .le (Jvm.ClassFile.Reader.signed 16 (a * 256 + b)), 3) := rd_dec (rd_bind (rd_u1 h.1) (rd_bind (rd_map (rd_u2 h.2.1 h.2.2)) rfl))
theorem dk159 {c : ByteArray} {pc : Nat} (a b : Nat) (h : gb c pc = some 159 ∧ gb c (pc + 1) = some a ∧ gb c (pc + 2) = some b) : decode c pc = .ok (.if_icmp .eq (Jvm.ClassFile.Reader.signed 16 (a * 256 + b)), 3) := rd_dec (rd_bind (rd_u1 h.1) (rd_bind (rd_map (rd_u2 h.2.1 h.2.2)) rfl))
theorem dk160 {c : ByteArray} {pc : Nat} (a b : Nat) (h : gb c pc = some 160 ∧ gb c (pc + 1) = some a ∧ gb c (pc + 2) = some b) : decode c pc = .ok (.if_icmp .ne (Jvm.ClassFile.Reader.signed 16 (a * 256 + b)), 3) := rd_dec (rd_bind (rd_u1 h.1) (rd_bind (rd_map (rd_u2 h.2.1 h.2.2)) rfl))
theorem dk161 {c : ByteArray} {pc : Nat} (a b : Nat) (h : gb c pc = some 161 ∧ gb c (pc + 1) = some a ∧ gb c (pc + 2) = some b) : decode c pc = .ok (.if_icmp .lt (Jvm.ClassFile.Reader.signed 16 (a * 256 + b)), 3) := rd_dec (rd_bind (rd_u1 h.1) (rd_bind (rd_map (rd_u2 h.2.1 h.2.2)) rfl))
theorem dk162 {c : ByteArray} {pc : Nat} (a b : Nat) (h : gb c pc = some 162 ∧ gb c (pc + 1) = some a ∧ gb c (pc + 2) = some b) : decode c pc = .ok (.if_icmp .ge (Jvm.ClassFile.Reader.signed 16 (a * 256 + b)), 3) := rd_dec (rd_bind (rd_u1 h.1) (rd_bind (rd_map (rd_u2 h.2.1 h.2.2)) rfl))
theorem dk163 {c : ByteArray} {pc : Nat} (a b : Nat) (h : gb c pc = some 163 ∧ gb c (pc + 1) = some a ∧ gb c (pc + 2) = some b) : decode c pc = .ok (.if_icmp .gt (Jvm.ClassFile.Reader.signed 16 (a * 256 + b)), 3) := rd_dec (rd_bind (rd_u1 h.1) (rd_bind (rd_map (rd_u2 h.2.1 h.2.2)) rfl))
theorem dk164 {c : ByteArray} {pc : Nat} (a b : Nat) (h : gb c pc = some 164 ∧ gb c (pc + 1) = some a ∧ gb c (pc + 2) = some b) : decode c pc = .ok (.if_icmp .le (Jvm.ClassFile.Reader.signed 16 (a * 256 + b)), 3) := rd_dec (rd_bind (rd_u1 h.1) (rd_bind (rd_map (rd_u2 h.2.1 h.2.2)) rfl))
theorem dk167 {c : ByteArray} {pc : Nat} (a b : Nat) (h : gb c pc = some 167 ∧ gb c (pc + 1) = some a ∧ gb c (pc + 2) = some b) : decode c pc = .ok (.goto (Jvm.ClassFile.Reader.signed 16 (a * 256 + b)), 3) := rd_dec (rd_bind (rd_u1 h.1) (rd_bind (rd_map (rd_u2 h.2.1 h.2.2)) rfl))
theorem dk172 {c : ByteArray} {pc : Nat} (h : gb c pc = some 172) : decode c pc = .ok (.ireturn, 1) := rd_dec (rd_bind (rd_u1 h) rfl)
theorem dk173 {c : ByteArray} {pc : Nat} (h : gb c pc = some 173) : decode c pc = .ok (.lreturn, 1) := rd_dec (rd_bind (rd_u1 h) rfl)
theorem dk176 {c : ByteArray} {pc : Nat} (h : gb c pc = some 176) : decode c pc = .ok (.areturn, 1) := rd_dec (rd_bind (rd_u1 h) rfl)
theorem dk177 {c : ByteArray} {pc : Nat} (h : gb c pc = some 177) : decode c pc = .ok (.return_, 1) := rd_dec (rd_bind (rd_u1 h) rfl)
theorem dk178 {c : ByteArray} {pc : Nat} (a b : Nat) (h : gb c pc = some 178 ∧ gb c (pc + 1) = some a ∧ gb c (pc + 2) = some b) : decode c pc = .ok (.getstatic (a * 256 + b), 3) := rd_dec (rd_bind (rd_u1 h.1) (rd_bind (rd_u2 h.2.1 h.2.2) rfl))
theorem dk180 {c : ByteArray} {pc : Nat} (a b : Nat) (h : gb c pc = some 180 ∧ gb c (pc + 1) = some a ∧ gb c (pc + 2) = some b) : decode c pc = .ok (.getfield (a * 256 + b), 3) := rd_dec (rd_bind (rd_u1 h.1) (rd_bind (rd_u2 h.2.1 h.2.2) rfl))
theorem dk181 {c : ByteArray} {pc : Nat} (a b : Nat) (h : gb c pc = some 181 ∧ gb c (pc + 1) = some a ∧ gb c (pc + 2) = some b) : decode c pc = .ok (.putfield (a * 256 + b), 3) := rd_dec (rd_bind (rd_u1 h.1) (rd_bind (rd_u2 h.2.1 h.2.2) rfl))
theorem dk182 {c : ByteArray} {pc : Nat} (a b : Nat) (h : gb c pc = some 182 ∧ gb c (pc + 1) = some a ∧ gb c (pc + 2) = some b) : decode c pc = .ok (.invokevirtual (a * 256 + b), 3) := rd_dec (rd_bind (rd_u1 h.1) (rd_bind (rd_u2 h.2.1 h.2.2) rfl))
theorem dk183 {c : ByteArray} {pc : Nat} (a b : Nat) (h : gb c pc = some 183 ∧ gb c (pc + 1) = some a ∧ gb c (pc + 2) = some b) : decode c pc = .ok (.invokespecial (a * 256 + b), 3) := rd_dec (rd_bind (rd_u1 h.1) (rd_bind (rd_u2 h.2.1 h.2.2) rfl))
theorem dk184 {c : ByteArray} {pc : Nat} (a b : Nat) (h : gb c pc = some 184 ∧ gb c (pc + 1) = some a ∧ gb c (pc + 2) = some b) : decode c pc = .ok (.invokestatic (a * 256 + b), 3) := rd_dec (rd_bind (rd_u1 h.1) (rd_bind (rd_u2 h.2.1 h.2.2) rfl))
theorem dk187 {c : ByteArray} {pc : Nat} (a b : Nat) (h : gb c pc = some 187 ∧ gb c (pc + 1) = some a ∧ gb c (pc + 2) = some b) : decode c pc = .ok (.new (a * 256 + b), 3) := rd_dec (rd_bind (rd_u1 h.1) (rd_bind (rd_u2 h.2.1 h.2.2) rfl))
theorem dk188_4 {c : ByteArray} {pc : Nat} (h : gb c pc = some 188 ∧ gb c (pc + 1) = some 4) : decode c pc = .ok (.newarray .boolean, 2) := rd_dec (rd_bind (rd_u1 h.1) (rd_bind (rd_u1 h.2) rfl))
theorem dk188_8 {c : ByteArray} {pc : Nat} (h : gb c pc = some 188 ∧ gb c (pc + 1) = some 8) : decode c pc = .ok (.newarray .byte, 2) := rd_dec (rd_bind (rd_u1 h.1) (rd_bind (rd_u1 h.2) rfl))
theorem dk188_10 {c : ByteArray} {pc : Nat} (h : gb c pc = some 188 ∧ gb c (pc + 1) = some 10) : decode c pc = .ok (.newarray .int, 2) := rd_dec (rd_bind (rd_u1 h.1) (rd_bind (rd_u1 h.2) rfl))
theorem dk188_11 {c : ByteArray} {pc : Nat} (h : gb c pc = some 188 ∧ gb c (pc + 1) = some 11) : decode c pc = .ok (.newarray .long, 2) := rd_dec (rd_bind (rd_u1 h.1) (rd_bind (rd_u1 h.2) rfl))
theorem dk190 {c : ByteArray} {pc : Nat} (h : gb c pc = some 190) : decode c pc = .ok (.arraylength, 1) := rd_dec (rd_bind (rd_u1 h) rfl)
theorem dk192 {c : ByteArray} {pc : Nat} (a b : Nat) (h : gb c pc = some 192 ∧ gb c (pc + 1) = some a ∧ gb c (pc + 2) = some b) : decode c pc = .ok (.checkcast (a * 256 + b), 3) := rd_dec (rd_bind (rd_u1 h.1) (rd_bind (rd_u2 h.2.1 h.2.2) rfl))
