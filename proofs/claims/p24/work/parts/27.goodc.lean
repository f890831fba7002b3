theorem goodIn_c {big : List Cond} {chs : List (List Cond)} (hb : chs.flatten = big) (ws : List Cond) (ps : List (Nat × Nat)) (hp : ws = ps.filterMap (fun q => (chs[q.1]?).bind (fun ch => ch[q.2]?))) (h : ws.all goodWord = true) : GoodIn big ws := by
  intro w hw
  have h1 := List.all_eq_true.mp h w hw
  rw [hp] at hw
  obtain ⟨q, -, hq⟩ := List.mem_filterMap.mp hw
  obtain ⟨ch, hc, hi⟩ := Option.bind_eq_some_iff.mp hq
  rw [← hb]
  exact ⟨List.mem_flatten.mpr ⟨ch, List.mem_of_getElem? hc, List.mem_of_getElem? hi⟩, good_of_word h1⟩

