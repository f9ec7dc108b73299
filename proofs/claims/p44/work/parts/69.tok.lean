/-! rows as they are typed -/
section TOK
variable {G G1 : gW} {ar : Nat → ClassId} {κ : Nat → Nat} {a v : Nat} {bs : List Int32} {x : Xo} {S Z T : Ho}
/-- a row: its letter, its first number's digits, its second's -/
abbrev Tk := Int32 × List Int32 × Option (List Int32)
def tkB (t : Tk) : List Int32 := t.1 :: (t.2.1 ++ (match t.2.2 with | none => [] | some f => 44 :: f))
def tkA (t : Tk) : Int32 := if t.2.1.length = 0 then 0 else pI t.2.1
def tkE (t : Tk) : Int32 := match t.2.2 with | none => 0 | some f => pI f
def tkG (t : Tk) : Prop := (∃ n : Nat, n < 128 ∧ t.1 = nI n ∧ ¬ n = 32 ∧ ¬ n = 44) ∧ match t.2.2 with | none => t.2.1 = [] ∨ okD t.2.1 | some f => okD t.2.1 ∧ okD f
/-- what a row does, what rows do -/
def tyR (Z : Ho) (t : Tk) : Ho := (sL_row Z t.1 (tkA t) (tkE t)).2
def tyS (Z : Ho) (L : List Tk) : Ho := L.foldl tyR (sL_wipe Z).2
theorem okD_mem {d : List Int32} (h : okD d) : ∀ b ∈ d, ∃ k : Nat, k < 10 ∧ b = nI (48 + k) := by
  intro b hb
  rcases h with ⟨d, hd, rfl⟩ | ⟨d, e, hd, he, rfl⟩
  · exact ⟨d, hd, List.mem_singleton.mp hb⟩
  · rcases List.mem_cons.mp hb with h | h
    · exact ⟨d, hd, h⟩
    · exact ⟨e, he, List.mem_singleton.mp h⟩
theorem okD_len {d : List Int32} (h : okD d) : 0 < d.length := by
  rcases h with ⟨d, hd, rfl⟩ | ⟨d, e, hd, he, rfl⟩
  · exact Nat.zero_lt_one
  · exact Nat.zero_lt_succ 1
theorem okD_ne {d : List Int32} {c : Nat} (h : okD d) (hc : c < 48) : ∀ b ∈ d, ¬ b = nI c := by
  intro b hb q
  obtain ⟨k, hk, rfl⟩ := okD_mem h b hb
  have := nI_inj (by omega) (by omega) q
  omega
theorem tkB_mem {t : Tk} (h : tkG t) {b : Int32} (hb : b ∈ tkB t) : b = t.1 ∨ (∃ d, okD d ∧ b ∈ d) ∨ b = 44 := by
  obtain ⟨c, d, e⟩ := t
  rcases List.mem_cons.mp hb with h1 | h1
  · exact Or.inl h1
  · rcases List.mem_append.mp h1 with h2 | h2
    · cases e with
      | none =>
        rcases h.2 with h3 | h3
        · rw [show d = [] from h3] at h2; cases h2
        · exact Or.inr (Or.inl ⟨d, h3, h2⟩)
      | some f => exact Or.inr (Or.inl ⟨d, h.2.1, h2⟩)
    · cases e with
      | none => cases h2
      | some f =>
        rcases List.mem_cons.mp h2 with h3 | h3
        · exact Or.inr (Or.inr h3)
        · exact Or.inr (Or.inl ⟨f, h.2.2, h3⟩)
theorem tkB_ok {t : Tk} (h : tkG t) : tkO (tkB t) := by
  refine ⟨Nat.zero_lt_succ _, fun b hb q => ?_⟩
  rcases tkB_mem h hb with h1 | ⟨d, h1, h2⟩ | h1
  · obtain ⟨n, hn, e1, e2, -⟩ := h.1
    exact e2 (nI_inj (by omega) (by decide) (show nI n = nI 32 from e1.symm.trans (h1.symm.trans q)))
  · exact okD_ne h1 (c := 32) (by decide) b h2 q
  · rw [h1] at q; exact absurd q (by decide)
theorem tkB_asc {t : Tk} (h : tkG t) : Asc (tkB t) := by
  intro b hb
  rcases tkB_mem h hb with h1 | ⟨d, h1, h2⟩ | h1
  · obtain ⟨n, hn, e1, -⟩ := h.1
    exact ⟨n, hn, h1.trans e1⟩
  · exact h1.asc b h2
  · exact ⟨44, by decide, h1⟩
theorem jn_asc : ∀ (L : List (List Int32)), (∀ t ∈ L, Asc t) → Asc (jn L)
  | [], _ => fun b hb => by cases hb
  | [t], h => h t List.mem_cons_self
  | t :: u :: r, h => fun b hb => by
    rcases List.mem_append.mp (show b ∈ t ++ 32 :: jn (u :: r) from hb) with h1 | h1
    · exact h t List.mem_cons_self b h1
    · rcases List.mem_cons.mp h1 with h2 | h2
      · exact ⟨32, by decide, h2⟩
      · exact jn_asc (u :: r) (fun q hq => h q (List.mem_cons_of_mem _ hq)) b h2
theorem tk_first {t : Tk} : (tkB t).getD 0 0 = t.1 := rfl
theorem tk_len0 {c : Int32} {d : List Int32} : (tkB (c, d, none)).length = d.length + 1 := by
  show (d ++ []).length + 1 = d.length + 1
  rw [List.append_nil]
theorem tk_len1 {c : Int32} {d f : List Int32} : (tkB (c, d, some f)).length = d.length + f.length + 2 := by
  show (d ++ 44 :: f).length + 1 = d.length + f.length + 2
  rw [List.length_append, List.length_cons]
  omega
theorem tk_ne44 {c : Int32} {d : List Int32} {e : Option (List Int32)} (h : tkG (c, d, e)) (hd : d = [] ∨ okD d) : ∀ q, q < 1 + d.length → ¬ (tkB (c, d, e)).getD q 0 = 44 := by
  intro q hq
  obtain ⟨n, hn, e1, -, e2⟩ := h.1
  cases q with
  | zero => exact fun z => e2 (nI_inj (by omega) (by decide) (show nI n = nI 44 from e1.symm.trans z))
  | succ q =>
    intro z
    rcases hd with rfl | hd
    · simp at hq
    · have hm : (tkB (c, d, e)).getD (q + 1) 0 = d.getD q 0 := getD_l (L := d) (by omega)
      exact okD_ne hd (c := 44) (by decide) _ (getD_mem (L := d) (d := 0) (j := q) (by omega)) (hm.symm.trans z)
theorem tk_no {c : Int32} {d bt : List Int32} (hb : bt = tkB (c, d, none)) (h : tkG (c, d, none)) : ixF 44 bt 0 bt.length = -1 := by
  subst hb
  have hl := tk_len0 (c := c) (d := d)
  exact ixF_miss _ 0 (fun q _ h2 => tk_ne44 h h.2 q (by omega))
theorem tk_yes {c : Int32} {d f bt : List Int32} (hb : bt = tkB (c, d, some f)) (h : tkG (c, d, some f)) : ixF 44 bt 0 bt.length = nI (d.length + 1) := by
  subst hb
  have hl := tk_len1 (c := c) (d := d) (f := f)
  have h1 := ixF_hit (c := 44) (bs := tkB (c, d, some f)) (d.length + 1) 0 (tkB (c, d, some f)).length (fun q _ h2 => tk_ne44 h (Or.inr h.2.1) q (by rw [Nat.zero_add] at h2; rw [Nat.add_comm]; exact h2)) (by rw [Nat.zero_add]; exact getD_r (L := d) (j := 0)) (by rw [hl]; omega)
  rw [Nat.zero_add] at h1
  exact h1
theorem tk_cut0 {c : Int32} {d bt : List Int32} (hb : bt = tkB (c, d, none)) : slc bt 1 bt.length = d := by
  subst hb
  show (d ++ []).take ((c :: (d ++ [])).length - 1) = d
  rw [List.append_nil, List.length_cons, Nat.add_sub_cancel, List.take_length]
theorem tk_cut1 {c : Int32} {d f bt : List Int32} (hb : bt = tkB (c, d, some f)) : slc bt 1 (d.length + 1) = d := by
  subst hb
  show (d ++ 44 :: f).take (d.length + 1 - 1) = d
  rw [Nat.add_sub_cancel, List.take_left]
theorem tk_cut2 {c : Int32} {d f bt : List Int32} (hb : bt = tkB (c, d, some f)) : slc bt (d.length + 1 + 1) bt.length = f := by
  subst hb
  have hl := tk_len1 (c := c) (d := d) (f := f)
  have e1 : (tkB (c, d, some f)).drop (d.length + 1 + 1) = f := by
    rw [show tkB (c, d, some f) = (c :: d ++ [44]) ++ f by simp [tkB]]
    exact List.drop_left' (by simp)
  unfold slc
  rw [e1]
  exact List.take_of_length_le (by rw [hl]; omega)
theorem tyR_0 {Z : Ho} {c : Int32} {e : Option (List Int32)} : tyR Z (c, [], e) = (sL_row Z c 0 (tkE (c, [], e))).2 := rfl
theorem tyR_1 {Z : Ho} {c : Int32} {d : List Int32} {e : Option (List Int32)} (h : okD d) : tyR Z (c, d, e) = (sL_row Z c (pI d) (tkE (c, d, e))).2 := by
  show (sL_row Z c (if d.length = 0 then 0 else pI d) (tkE (c, d, e))).2 = _
  rw [if_neg (by have := okD_len h; omega)]
/-- arrays of bytes are no others' -/
theorem ar_ne {D : va_G} {s : State} (hK : va_K D vwCl (gT ar) s) : ar 4 ≠ ar 0 ∧ ar 4 ≠ ar 2 := by
  obtain ⟨k4, h4, n4⟩ := Vm.findClass_spec (va_nm_byte (hK.2 4 (ar 4, .byte) rfl).2)
  obtain ⟨k0, h0, n0⟩ := Vm.findClass_spec (va_nm_int (hK.2 0 (ar 0, .int) rfl).2)
  obtain ⟨k2, h2, n2⟩ := Vm.findClass_spec (va_nm_char (hK.2 2 (ar 2, .char) rfl).2)
  constructor
  · intro q
    rw [q] at h4
    cases h4.symm.trans h0
    rw [n4] at n0
    exact absurd n0 (by decide)
  · intro q
    rw [q] at h4
    cases h4.symm.trans h2
    rw [n4] at n2
    exact absurd n2 (by decide)
theorem house_s {fs : List Value} {t : Tg} : ¬ cellH κ ar x S t = .inr (0, fs) := by
  intro q
  rcases t with j | j | j | j | j | j
  · rcases j with ⟨⟩ | ⟨⟩ | ⟨⟩ | ⟨⟩ | ⟨⟩ | ⟨⟩ | ⟨⟩ | ⟨⟩ | ⟨⟩ | ⟨⟩ | ⟨⟩ | ⟨⟩ | ⟨⟩ <;> simp [cellH, cSg] at q
  · rcases j with j | j <;> simp [cellH, cTh] at q
  · rcases j with j | j | j | j <;> simp [cellH, cFr] at q
  · simp [cellH, cTo] at q
  · rcases j with j | j | j | j | j | j <;> simp [cellH, cRo] at q
  · rcases j with j | j <;> simp [cellH, cPg] at q
theorem house_b (hr : ar 4 ≠ ar 0 ∧ ar 4 ≠ ar 2) {n : Nat} {f : Nat → Int32} {t : Tg} : ¬ cellH κ ar x S t = .inl (ar 4, n, .inl f) := by
  intro q
  have h0 : ¬ ar 0 = ar 4 := fun z => hr.1 z.symm
  have h2 : ¬ ar 2 = ar 4 := fun z => hr.2 z.symm
  rcases t with j | j | j | j | j | j
  · rcases j with ⟨⟩ | ⟨⟩ | ⟨⟩ | ⟨⟩ | ⟨⟩ | ⟨⟩ | ⟨⟩ | ⟨⟩ | ⟨⟩ | ⟨⟩ | ⟨⟩ | ⟨⟩ | ⟨⟩ <;> simp [cellH, cSg, h0, h2] at q
  · rcases j with j | j <;> simp [cellH, cTh, h0, h2] at q
  · rcases j with j | j | j | j <;> simp [cellH, cFr, h0, h2] at q
  · simp [cellH, cTo] at q
  · rcases j with j | j | j | j | j | j <;> simp [cellH, cRo, h0, h2] at q
  · rcases j with j | j <;> simp [cellH, cPg, h0, h2] at q
/-- a text is no part of a house -/
theorem tx_ov (hr : ar 4 ≠ ar 0 ∧ ar 4 ≠ ar 2) (h : TX ar κ (ov κ ar x S G) a v bs) : TX ar κ (ov κ ar x T G) a v bs := by
  have key : ∀ (q : Nat) (e : va_E), ov κ ar x S G q = some e → (∀ t, ¬ cellH κ ar x S t = e) → ov κ ar x T G q = some e := by
    intro q e h1 h2
    cases hb : x.b q with
    | none => rw [ov_0 hb] at h1 ⊢; exact h1
    | some t => rw [ov_s hb] at h1; exact absurd (Option.some.inj h1) (h2 t)
  rcases h with ⟨⟨h1, z1, h⟩, h2⟩ | h
  · exact Or.inl ⟨⟨h1, z1, key _ _ h (fun t => house_s)⟩, key _ _ h2 (fun t => house_b hr)⟩
  · exact Or.inr h
theorem ov_ge (h : gLe (ov κ ar x S G) G1) : G1 = ov κ ar x S G1 := by
  funext q
  cases hb : x.b q with
  | none => exact (ov_0 hb).symm
  | some t => rw [h q _ (ov_s hb)]; exact (ov_s hb).symm
theorem tx_on (hr : ar 4 ≠ ar 0 ∧ ar 4 ≠ ar 2) (h : TX ar κ (ov κ ar x S G) a v bs) (hg : gLe (ov κ ar x S G) G1) : TX ar κ (ov κ ar x T G1) a v bs := by
  have h1 := h.le hg
  rw [ov_ge hg] at h1
  exact tx_ov hr h1
/-- a world more than another, a house aside -/
def gLv (x : Xo) (G G1 : gW) : Prop := ∀ q e, x.b q = none → G q = some e → G1 q = some e
theorem gLv.r : gLv x G G := fun _ _ _ h => h
theorem gLv.t {G2 : gW} (h : gLv x G G1) (h2 : gLv x G1 G2) : gLv x G G2 := fun q e h1 h3 => h2 q e h1 (h q e h1 h3)
theorem gLv.o (h : gLe (ov κ ar x S G) G1) : gLv x G G1 := fun q e h1 h2 => h q e ((ov_0 h1).trans h2)
theorem map_at {α β : Type} {F : α → β} {L r : List α} {t : α} {d : β} : ((L ++ t :: r).map F).getD L.length d = F t := by
  rw [List.map_append, List.map_cons]
  have h := getD_r (L := L.map F) (L2 := F t :: r.map F) (d := d) (j := 0)
  rw [List.length_map] at h
  exact h
theorem jn_tk (L : List Tk) (h : ∀ t ∈ L, tkG t) : (∀ t ∈ L.map tkB, tkO t) ∧ Asc (jn (L.map tkB)) := by
  constructor
  · intro t ht
    obtain ⟨u, h1, rfl⟩ := List.mem_map.mp ht
    exact tkB_ok (h u h1)
  · refine jn_asc _ (fun t ht => ?_)
    obtain ⟨u, h1, rfl⟩ := List.mem_map.mp ht
    exact tkB_asc (h u h1)
theorem tx_eq (h : G = G1) (t : TX ar κ G a v bs) : TX ar κ G1 a v bs := h ▸ t
end TOK
