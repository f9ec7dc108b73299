/-! a house that was just made lies as its state says -/
theorem thG_e {W : gW} {ar : Nat → ClassId} {q n i a : Nat} (ha : a = q + 2 * i) (h : i < n) : thG W ar q n a = some (.inr (10, [.ref (a + 1), .int 0, .int 0, .int 0, .int 0])) := by
  subst ha
  unfold thG
  rw [if_pos (by omega), if_pos (by omega)]
theorem thG_d {W : gW} {ar : Nat → ClassId} {q n i a : Nat} (ha : a = q + 2 * i + 1) (h : i < n) : thG W ar q n a = some (.inl (ar 1, 8, .inr (.inl (fun _ => 0)))) := by
  subst ha
  unfold thG
  rw [if_pos (by omega), if_neg (by omega)]
theorem frG_e0 {W : gW} {ar : Nat → ClassId} {q n i a : Nat} (ha : a = q + 4 * i) (h : i < n) : frG W ar q n a = some (.inr (7, [.ref (a + 1), .ref (a + 2), .ref (a + 3), .null, .long 502511173632, .int 0, .int 0])) := by
  subst ha
  unfold frG
  rw [if_pos (by omega), if_pos (by omega)]
theorem frG_e1 {W : gW} {ar : Nat → ClassId} {q n i a : Nat} (ha : a = q + 4 * i + 1) (h : i < n) : frG W ar q n a = some (.inl (ar 1, 2, .inr (.inl (fun _ => 0)))) := by
  subst ha
  unfold frG
  rw [if_pos (by omega), if_neg (by omega), if_pos (by omega)]
theorem frG_e2 {W : gW} {ar : Nat → ClassId} {q n i a : Nat} (ha : a = q + 4 * i + 2) (h : i < n) : frG W ar q n a = some (.inl (ar 1, 4, .inr (.inl (fun _ => 0)))) := by
  subst ha
  unfold frG
  rw [if_pos (by omega), if_neg (by omega), if_neg (by omega), if_pos (by omega)]
theorem frG_e3 {W : gW} {ar : Nat → ClassId} {q n i a : Nat} (ha : a = q + 4 * i + 3) (h : i < n) : frG W ar q n a = some (.inl (ar 1, 8, .inr (.inl (fun _ => 0)))) := by
  subst ha
  unfold frG
  rw [if_pos (by omega), if_neg (by omega), if_neg (by omega), if_neg (by omega)]
def al0 : Nat → Option (Fin 60) := fun j => if h : j < 60 then some ⟨j, h⟩ else none
/-- the state of a house that was just made -/
def S0 : Ho := ((((((upd (fun _ => 0) (Int32.toNatClampNeg 0) (-1)), (fun _ => 0)), (3, (fun _ => none))), ((0, 1), 0)), ((((fun _ => (((0, 0), 0), ((0, 0), 0))), (fun _ => ((((fun _ => 0), (fun _ => 0)), ((fun _ => 0), (fun _ => 0))), (((fun _ => 0), 0), 0)))), ((fillJ (fun _ => 0) 502511173632 8), al0)), (((fun _ => none), (fun _ => ((((fun _ => 0), 0), 0), (0, 0)))), 0))), ((((0, 0), ((fun _ => ((((fun _ => 0), (fun _ => 0)), ((fun _ => 0), none)), ((502511173632, 0), 0))), 0)), ((45, 32), 502511173632)), (((0, 0), (fun _ _ => 0)), ((0, 0), 1))))
def f0 (h q : Nat) : Tg → Nat := Sum.elim (Sum.elim (fun _ => h) (Sum.elim (fun _ => q) (Sum.elim (fun _ => q + 1) (Sum.elim (fun _ => q + 2) (Sum.elim (fun _ => q + 3) (Sum.elim (fun _ => q + 10) (Sum.elim (fun _ => q + 11) (Sum.elim (fun _ => q + 12) (Sum.elim (fun _ => q + 13) (Sum.elim (fun _ => q + 134) (Sum.elim (fun _ => q + 135) (Sum.elim (fun _ => q + 136) ((fun _ => 0)))))))))))))) (Sum.elim (Sum.elim (fun i => q + 14 + 2 * i.val) ((fun i => q + 14 + 2 * i.val + 1))) (Sum.elim (Sum.elim (fun i => q + 137 + 4 * i.val) (Sum.elim (fun i => q + 137 + 4 * i.val + 1) (Sum.elim (fun i => q + 137 + 4 * i.val + 2) ((fun i => q + 137 + 4 * i.val + 3))))) (Sum.elim ((fun _ => 0)) (Sum.elim (Sum.elim (fun _ => q + 4) (Sum.elim (fun _ => q + 5) (Sum.elim (fun _ => q + 6) (Sum.elim (fun _ => q + 7) (Sum.elim (fun _ => q + 8) ((fun _ => q + 9))))))) ((Sum.elim (fun _ => 0) ((fun _ => 0))))))))
def x00 (h q : Nat) : Xo := (f0 h q, 0, mkZ (fun _ => none) (fun _ => 0) 0 0 0 (fun _ => 0) (fun _ => 0))
def dcd2 : Nat → Tg
  | 0 => .cl
  | 1 => .ab
  | 2 => .fc
  | 3 => .me
  | 4 => .ro 0
  | 5 => .rl 0
  | 6 => .rf 0
  | 7 => .rg 0
  | 8 => .rd 0
  | 9 => .rq 0
  | 10 => .gl
  | 11 => .ts
  | 12 => .al
  | 13 => .re
  | n + 14 => if h : n < 120 then (if n % 2 = 0 then .th ⟨n / 2, by omega⟩ else .tp ⟨n / 2, by omega⟩) else if n = 120 then .fs else if n = 121 then .wr else if n = 122 then .pl else if h2 : n - 123 < 48 then (if (n - 123) % 4 = 0 then .fr ⟨(n - 123) / 4, by omega⟩ else if (n - 123) % 4 = 1 then .fa ⟨(n - 123) / 4, by omega⟩ else if (n - 123) % 4 = 2 then .ft ⟨(n - 123) / 4, by omega⟩ else .fp ⟨(n - 123) / 4, by omega⟩) else .ho
/-- which cell lies there -/
def dcd (h q a : Nat) : Tg := if a = h then .ho else dcd2 (a - q)
def hB (h q a : Nat) : Option Tg := if vl S0 (dcd h q a) = true ∧ (x00 h q).a (dcd h q a) = a then some (dcd h q a) else none
def x0 (h q : Nat) : Xo := (f0 h q, 0, mkZ (hB h q) (fun _ => 0) 0 0 0 (fun _ => 0) (fun _ => 0))
theorem x0_o {h q a : Nat} {t : Tg} (z : (x0 h q).b a = some t) : vl S0 t = true ∧ (x00 h q).a t = a := by
  have z2 : hB h q a = some t := z
  unfold hB at z2
  by_cases c : vl S0 (dcd h q a) = true ∧ (x00 h q).a (dcd h q a) = a
  · rw [if_pos c] at z2
    cases z2
    exact c
  · rw [if_neg c] at z2
    cases z2
theorem x0_i {h q : Nat} {t : Tg} (hv : vl S0 t = true) (hd : dcd h q ((x00 h q).a t) = t) : (x0 h q).b ((x0 h q).a t) = some t := by
  show hB h q ((x00 h q).a t) = some t
  unfold hB
  rw [hd]
  exact if_pos ⟨hv, rfl⟩
theorem dcd_ho {h q : Nat} : dcd h q h = .ho := if_pos rfl
theorem dcd_cl {h q : Nat} (hq : h < q) : dcd h q (q) = .cl := by
  unfold dcd
  rw [if_neg (by omega), show q - q = 0 by omega]
  rfl
theorem dcd_ab {h q : Nat} (hq : h < q) : dcd h q (q + 1) = .ab := by
  unfold dcd
  rw [if_neg (by omega), show q + 1 - q = 1 by omega]
  rfl
theorem dcd_fc {h q : Nat} (hq : h < q) : dcd h q (q + 2) = .fc := by
  unfold dcd
  rw [if_neg (by omega), show q + 2 - q = 2 by omega]
  rfl
theorem dcd_me {h q : Nat} (hq : h < q) : dcd h q (q + 3) = .me := by
  unfold dcd
  rw [if_neg (by omega), show q + 3 - q = 3 by omega]
  rfl
theorem dcd_ro {h q : Nat} (hq : h < q) : dcd h q (q + 4) = .ro 0 := by
  unfold dcd
  rw [if_neg (by omega), show q + 4 - q = 4 by omega]
  rfl
theorem dcd_rl {h q : Nat} (hq : h < q) : dcd h q (q + 5) = .rl 0 := by
  unfold dcd
  rw [if_neg (by omega), show q + 5 - q = 5 by omega]
  rfl
theorem dcd_rf {h q : Nat} (hq : h < q) : dcd h q (q + 6) = .rf 0 := by
  unfold dcd
  rw [if_neg (by omega), show q + 6 - q = 6 by omega]
  rfl
theorem dcd_rg {h q : Nat} (hq : h < q) : dcd h q (q + 7) = .rg 0 := by
  unfold dcd
  rw [if_neg (by omega), show q + 7 - q = 7 by omega]
  rfl
theorem dcd_rd {h q : Nat} (hq : h < q) : dcd h q (q + 8) = .rd 0 := by
  unfold dcd
  rw [if_neg (by omega), show q + 8 - q = 8 by omega]
  rfl
theorem dcd_rq {h q : Nat} (hq : h < q) : dcd h q (q + 9) = .rq 0 := by
  unfold dcd
  rw [if_neg (by omega), show q + 9 - q = 9 by omega]
  rfl
theorem dcd_gl {h q : Nat} (hq : h < q) : dcd h q (q + 10) = .gl := by
  unfold dcd
  rw [if_neg (by omega), show q + 10 - q = 10 by omega]
  rfl
theorem dcd_ts {h q : Nat} (hq : h < q) : dcd h q (q + 11) = .ts := by
  unfold dcd
  rw [if_neg (by omega), show q + 11 - q = 11 by omega]
  rfl
theorem dcd_al {h q : Nat} (hq : h < q) : dcd h q (q + 12) = .al := by
  unfold dcd
  rw [if_neg (by omega), show q + 12 - q = 12 by omega]
  rfl
theorem dcd_re {h q : Nat} (hq : h < q) : dcd h q (q + 13) = .re := by
  unfold dcd
  rw [if_neg (by omega), show q + 13 - q = 13 by omega]
  rfl
theorem dcd_fs {h q : Nat} (hq : h < q) : dcd h q (q + 134) = .fs := by
  unfold dcd
  rw [if_neg (by omega), show q + 134 - q = 134 by omega]
  rfl
theorem dcd_wr {h q : Nat} (hq : h < q) : dcd h q (q + 135) = .wr := by
  unfold dcd
  rw [if_neg (by omega), show q + 135 - q = 135 by omega]
  rfl
theorem dcd_pl {h q : Nat} (hq : h < q) : dcd h q (q + 136) = .pl := by
  unfold dcd
  rw [if_neg (by omega), show q + 136 - q = 136 by omega]
  rfl
theorem dcd_th {h q : Nat} (hq : h < q) (i : Fin 60) : dcd h q (q + 14 + 2 * i.val) = .th i := by
  have hi := i.isLt
  unfold dcd
  rw [if_neg (by omega), show q + 14 + 2 * i.val - q = (2 * i.val) + 14 by omega]
  show (if h : 2 * i.val < 120 then _ else _) = _
  rw [dif_pos (by omega)]
  rw [if_pos (by omega)]
  exact congrArg (fun k9 => (.th k9 : Tg)) (Fin.ext (by show (2 * i.val) / 2 = i.val; omega))
theorem dcd_tp {h q : Nat} (hq : h < q) (i : Fin 60) : dcd h q (q + 14 + 2 * i.val + 1) = .tp i := by
  have hi := i.isLt
  unfold dcd
  rw [if_neg (by omega), show q + 14 + 2 * i.val + 1 - q = (2 * i.val + 1) + 14 by omega]
  show (if h : 2 * i.val + 1 < 120 then _ else _) = _
  rw [dif_pos (by omega)]
  rw [if_neg (by omega)]
  exact congrArg (fun k9 => (.tp k9 : Tg)) (Fin.ext (by show (2 * i.val + 1) / 2 = i.val; omega))
theorem dcd_fr {h q : Nat} (hq : h < q) (i : Fin 12) : dcd h q (q + 137 + 4 * i.val) = .fr i := by
  have hi := i.isLt
  unfold dcd
  rw [if_neg (by omega), show q + 137 + 4 * i.val - q = (123 + (4 * i.val)) + 14 by omega]
  show (if h : 123 + (4 * i.val) < 120 then _ else _) = _
  rw [dif_neg (by omega), if_neg (by omega), if_neg (by omega), if_neg (by omega), dif_pos (by omega)]
  rw [if_pos (by omega)]
  exact congrArg (fun k9 => (.fr k9 : Tg)) (Fin.ext (by show (123 + (4 * i.val) - 123) / 4 = i.val; omega))
theorem dcd_fa {h q : Nat} (hq : h < q) (i : Fin 12) : dcd h q (q + 137 + 4 * i.val + 1) = .fa i := by
  have hi := i.isLt
  unfold dcd
  rw [if_neg (by omega), show q + 137 + 4 * i.val + 1 - q = (123 + (4 * i.val + 1)) + 14 by omega]
  show (if h : 123 + (4 * i.val + 1) < 120 then _ else _) = _
  rw [dif_neg (by omega), if_neg (by omega), if_neg (by omega), if_neg (by omega), dif_pos (by omega)]
  rw [if_neg (by omega)]
  rw [if_pos (by omega)]
  exact congrArg (fun k9 => (.fa k9 : Tg)) (Fin.ext (by show (123 + (4 * i.val + 1) - 123) / 4 = i.val; omega))
theorem dcd_ft {h q : Nat} (hq : h < q) (i : Fin 12) : dcd h q (q + 137 + 4 * i.val + 2) = .ft i := by
  have hi := i.isLt
  unfold dcd
  rw [if_neg (by omega), show q + 137 + 4 * i.val + 2 - q = (123 + (4 * i.val + 2)) + 14 by omega]
  show (if h : 123 + (4 * i.val + 2) < 120 then _ else _) = _
  rw [dif_neg (by omega), if_neg (by omega), if_neg (by omega), if_neg (by omega), dif_pos (by omega)]
  rw [if_neg (by omega)]
  rw [if_neg (by omega)]
  rw [if_pos (by omega)]
  exact congrArg (fun k9 => (.ft k9 : Tg)) (Fin.ext (by show (123 + (4 * i.val + 2) - 123) / 4 = i.val; omega))
theorem dcd_fp {h q : Nat} (hq : h < q) (i : Fin 12) : dcd h q (q + 137 + 4 * i.val + 3) = .fp i := by
  have hi := i.isLt
  unfold dcd
  rw [if_neg (by omega), show q + 137 + 4 * i.val + 3 - q = (123 + (4 * i.val + 3)) + 14 by omega]
  show (if h : 123 + (4 * i.val + 3) < 120 then _ else _) = _
  rw [dif_neg (by omega), if_neg (by omega), if_neg (by omega), if_neg (by omega), dif_pos (by omega)]
  rw [if_neg (by omega)]
  rw [if_neg (by omega)]
  rw [if_neg (by omega)]
  exact congrArg (fun k9 => (.fp k9 : Tg)) (Fin.ext (by show (123 + (4 * i.val + 3) - 123) / 4 = i.val; omega))
theorem x0_v {h q : Nat} (hq : h < q) (t : Tg) (hv : vl S0 t = true) : (x0 h q).b ((x0 h q).a t) = some t := by
  rcases t with j | j | j | j | j | j
  · rcases j with ⟨⟩ | ⟨⟩ | ⟨⟩ | ⟨⟩ | ⟨⟩ | ⟨⟩ | ⟨⟩ | ⟨⟩ | ⟨⟩ | ⟨⟩ | ⟨⟩ | ⟨⟩ | ⟨⟩
    · exact x0_i (t := .ho) rfl dcd_ho
    · exact x0_i (t := .cl) rfl (dcd_cl hq)
    · exact x0_i (t := .ab) rfl (dcd_ab hq)
    · exact x0_i (t := .fc) rfl (dcd_fc hq)
    · exact x0_i (t := .me) rfl (dcd_me hq)
    · exact x0_i (t := .gl) rfl (dcd_gl hq)
    · exact x0_i (t := .ts) rfl (dcd_ts hq)
    · exact x0_i (t := .al) rfl (dcd_al hq)
    · exact x0_i (t := .re) rfl (dcd_re hq)
    · exact x0_i (t := .fs) rfl (dcd_fs hq)
    · exact x0_i (t := .wr) rfl (dcd_wr hq)
    · exact x0_i (t := .pl) rfl (dcd_pl hq)
    · exact absurd (of_decide_eq_true (show decide (0 < 0) = true from hv)) (Nat.lt_irrefl 0)
  · rcases j with j | j
    · exact x0_i (t := .th j) rfl (dcd_th hq j)
    · exact x0_i (t := .tp j) rfl (dcd_tp hq j)
  · rcases j with j | j | j | j
    · exact x0_i (t := .fr j) rfl (dcd_fr hq j)
    · exact x0_i (t := .fa j) rfl (dcd_fa hq j)
    · exact x0_i (t := .ft j) rfl (dcd_ft hq j)
    · exact x0_i (t := .fp j) rfl (dcd_fp hq j)
  · exact absurd (of_decide_eq_true (show decide (j < 0) = true from hv)) (Nat.not_lt_zero j)
  · rcases j with j | j | j | j | j | j
    · obtain rfl : j = 0 := by have := of_decide_eq_true (show decide (j < 1) = true from hv); omega
      exact x0_i (t := .ro 0) hv (dcd_ro hq)
    · obtain rfl : j = 0 := by have := of_decide_eq_true (show decide (j < 1) = true from hv); omega
      exact x0_i (t := .rl 0) hv (dcd_rl hq)
    · obtain rfl : j = 0 := by have := of_decide_eq_true (show decide (j < 1) = true from hv); omega
      exact x0_i (t := .rf 0) hv (dcd_rf hq)
    · obtain rfl : j = 0 := by have := of_decide_eq_true (show decide (j < 1) = true from hv); omega
      exact x0_i (t := .rg 0) hv (dcd_rg hq)
    · obtain rfl : j = 0 := by have := of_decide_eq_true (show decide (j < 1) = true from hv); omega
      exact x0_i (t := .rd 0) hv (dcd_rd hq)
    · obtain rfl : j = 0 := by have := of_decide_eq_true (show decide (j < 1) = true from hv); omega
      exact x0_i (t := .rq 0) hv (dcd_rq hq)
  · rcases j with j | j
    · exact absurd (of_decide_eq_true (show decide (j < 0) = true from hv)) (Nat.not_lt_zero j)
    · exact absurd (of_decide_eq_true (show decide (j < 0) = true from hv)) (Nat.not_lt_zero j)
theorem OK_0 {h q : Nat} (hq : h < q) : OK (x0 h q) S0 :=
  ⟨x0_v hq, ⟨fun a t z => (x0_o z).2, ⟨fun j k z => (nomatch (show (none : Option Nat) = some k from z)), ⟨fun i k z => (nomatch (show (none : Option Nat) = some k from z)), ⟨fun k z => absurd z (Nat.not_lt_zero k), ⟨Nat.lt_succ_self 0, fun a t z => (x0_o z).1⟩⟩⟩⟩⟩⟩
theorem al0_e {q : Nat} {P : Fin 60 → Nat} (hP : ∀ i : Fin 60, P i = q + 14 + 2 * i.val) : thF (q + 14) 60 = fun j9 => (al0 j9).map P := by
  funext j
  unfold thF al0
  by_cases c : j < 60
  · rw [if_pos c, dif_pos c]
    exact congrArg some (hP ⟨j, c⟩).symm
  · rw [if_neg c, dif_neg c]
    rfl
theorem fF_e {q : Nat} {P : Fin 12 → Nat} (hP : ∀ i : Fin 12, P i = q + 137 + 4 * i.val) : frF (q + 137) 12 = fun j9 => (fF j9).map P := by
  funext j
  unfold frF fF
  by_cases c : j < 12
  · rw [if_pos c, dif_pos c]
    exact congrArg some (hP ⟨j, c⟩).symm
  · rw [if_neg c, dif_neg c]
    rfl
/-- what making one leaves -/
def Wi (κ : Nat → Nat) (ar : Nat → ClassId) (G : gW) (h q : Nat) : gW := (frG (g_up (g_up (g_up (g_up (g_up (thG (g_up (g_up (g_up (g_up (g_up (g_up (g_up (g_up (g_up (g_up (g_up (g_up (g_up (g_up (g_up (g_up (g_up G h (.inr (14, [.null, .null, .null, .int 0, .null, .null, .null, .int 0, .int 0, .int 0, .long 0, .int 0, .null]))) q (.inr (6, [.ref (q + 1), .ref (q + 2), .int 3]))) (q + 1) (.inl (ar 0, 12, .inl (upd (fun _ => 0) (Int32.toNatClampNeg 0) (-1))))) (q + 2) (.inl (ar 0, 12, .inl (fun _ => 0)))) h (.inr (14, [.ref q, .ref (q + 3), .ref (q + 4), .int 0, .ref (q + 10), .null, .null, .int 0, .int 0, .int 0, .long 0, .int 0, .null]))) (q + 3) (.inl (ar 7, 192, .inr (.inr (.inr (.inr (fun _ => none))))))) (q + 4) (.inr (9, [.ref (q + 5), .ref (q + 6), .ref (q + 7), .ref (q + 8), .ref (q + 9), .int 0, .int 0]))) (q + 5) (.inl (ar 2, 24, .inl (fun _ => 0)))) (q + 6) (.inl (ar 0, 24, .inl (fun _ => 0)))) (q + 7) (.inl (ar 0, 24, .inl (fun _ => 0)))) (q + 8) (.inl (ar 0, 24, .inl (fun _ => 0)))) (q + 9) (.inl (ar 0, 24, .inl (fun _ => 0)))) (q + 10) (.inl (ar 1, 8, .inr (.inl (fun _ => 0))))) (q + 11) (.inr (11, [.null, .null, .int 0, .int 0, .int 0]))) (q + 12) (.inl (ar 6, 60, .inr (.inr (.inr (.inr (thF (q + 14) 60))))))) (q + 11) (.inr (11, [.ref (q + 12), .ref (q + 13), .int 0, .int 0, .int 0]))) (q + 13) (.inl (ar 6, 60, .inr (.inr (.inr (.inr (fun _ => none))))))) ar (q + 14) 60) h (.inr (14, [.ref q, .ref (q + 3), .ref (q + 4), .int 0, .ref (q + 10), .ref (q + 11), .ref (q + 134), .int 0, .int 45, .int 32, .long 502511173632, .int 0, .ref (q + 135)]))) (q + 134) (.inl (ar 5, 12, .inr (.inr (.inr (.inr (frF (q + 137) 12))))))) (q + 135) (.inr (13, [.ref (q + 136), .int 0, .long 0, .long 1]))) (q + 136) (.inr (5, [.int 0, .ref (κ 0), .int 0]))) (q + 10) (.inl (ar 1, 8, .inr (.inl (fillJ (fun _ => 0) 502511173632 8))))) ar (q + 137) 12)
theorem Wi_ho {κ : Nat → Nat} {ar : Nat → ClassId} {G : gW} {h q : Nat} (hq : h < q) : Wi κ ar G h q (h) = some (cellH κ ar (x0 h q) S0 (.ho)) := by
  exact (frG_b (by omega) (g_up_o (by omega) (g_up_o (by omega) (g_up_o (by omega) (g_up_o (by omega) g_up_s)))))
theorem Wi_cl {κ : Nat → Nat} {ar : Nat → ClassId} {G : gW} {h q : Nat} (hq : h < q) : Wi κ ar G h q (q) = some (cellH κ ar (x0 h q) S0 (.cl)) := by
  exact (frG_b (by omega) (g_up_o (by omega) (g_up_o (by omega) (g_up_o (by omega) (g_up_o (by omega) (g_up_o (by omega) (thG_b (by omega) (g_up_o (by omega) (g_up_o (by omega) (g_up_o (by omega) (g_up_o (by omega) (g_up_o (by omega) (g_up_o (by omega) (g_up_o (by omega) (g_up_o (by omega) (g_up_o (by omega) (g_up_o (by omega) (g_up_o (by omega) (g_up_o (by omega) (g_up_o (by omega) (g_up_o (by omega) (g_up_o (by omega) g_up_s))))))))))))))))))))))
theorem Wi_ab {κ : Nat → Nat} {ar : Nat → ClassId} {G : gW} {h q : Nat} (hq : h < q) : Wi κ ar G h q (q + 1) = some (cellH κ ar (x0 h q) S0 (.ab)) := by
  exact (frG_b (by omega) (g_up_o (by omega) (g_up_o (by omega) (g_up_o (by omega) (g_up_o (by omega) (g_up_o (by omega) (thG_b (by omega) (g_up_o (by omega) (g_up_o (by omega) (g_up_o (by omega) (g_up_o (by omega) (g_up_o (by omega) (g_up_o (by omega) (g_up_o (by omega) (g_up_o (by omega) (g_up_o (by omega) (g_up_o (by omega) (g_up_o (by omega) (g_up_o (by omega) (g_up_o (by omega) (g_up_o (by omega) g_up_s)))))))))))))))))))))
theorem Wi_fc {κ : Nat → Nat} {ar : Nat → ClassId} {G : gW} {h q : Nat} (hq : h < q) : Wi κ ar G h q (q + 2) = some (cellH κ ar (x0 h q) S0 (.fc)) := by
  exact (frG_b (by omega) (g_up_o (by omega) (g_up_o (by omega) (g_up_o (by omega) (g_up_o (by omega) (g_up_o (by omega) (thG_b (by omega) (g_up_o (by omega) (g_up_o (by omega) (g_up_o (by omega) (g_up_o (by omega) (g_up_o (by omega) (g_up_o (by omega) (g_up_o (by omega) (g_up_o (by omega) (g_up_o (by omega) (g_up_o (by omega) (g_up_o (by omega) (g_up_o (by omega) (g_up_o (by omega) g_up_s))))))))))))))))))))
theorem Wi_me {κ : Nat → Nat} {ar : Nat → ClassId} {G : gW} {h q : Nat} (hq : h < q) : Wi κ ar G h q (q + 3) = some (cellH κ ar (x0 h q) S0 (.me)) := by
  exact (frG_b (by omega) (g_up_o (by omega) (g_up_o (by omega) (g_up_o (by omega) (g_up_o (by omega) (g_up_o (by omega) (thG_b (by omega) (g_up_o (by omega) (g_up_o (by omega) (g_up_o (by omega) (g_up_o (by omega) (g_up_o (by omega) (g_up_o (by omega) (g_up_o (by omega) (g_up_o (by omega) (g_up_o (by omega) (g_up_o (by omega) (g_up_o (by omega) g_up_s))))))))))))))))))
theorem Wi_gl {κ : Nat → Nat} {ar : Nat → ClassId} {G : gW} {h q : Nat} (hq : h < q) : Wi κ ar G h q (q + 10) = some (cellH κ ar (x0 h q) S0 (.gl)) := by
  exact (frG_b (by omega) g_up_s)
theorem Wi_ts {κ : Nat → Nat} {ar : Nat → ClassId} {G : gW} {h q : Nat} (hq : h < q) : Wi κ ar G h q (q + 11) = some (cellH κ ar (x0 h q) S0 (.ts)) := by
  exact (frG_b (by omega) (g_up_o (by omega) (g_up_o (by omega) (g_up_o (by omega) (g_up_o (by omega) (g_up_o (by omega) (thG_b (by omega) (g_up_o (by omega) g_up_s))))))))
theorem Wi_al {κ : Nat → Nat} {ar : Nat → ClassId} {G : gW} {h q : Nat} (hq : h < q) : Wi κ ar G h q (q + 12) = some (cellH κ ar (x0 h q) S0 (.al)) := by
  refine Eq.trans ?_ (congrArg (fun Z9 => some (.inl (ar 6, 60, .inr (.inr (.inr (.inr Z9)))) : va_E)) (al0_e (q := q) (P := fun k9 => (x0 h q).f (.th k9)) (fun _ => rfl)))
  exact (frG_b (by omega) (g_up_o (by omega) (g_up_o (by omega) (g_up_o (by omega) (g_up_o (by omega) (g_up_o (by omega) (thG_b (by omega) (g_up_o (by omega) (g_up_o (by omega) g_up_s)))))))))
theorem Wi_re {κ : Nat → Nat} {ar : Nat → ClassId} {G : gW} {h q : Nat} (hq : h < q) : Wi κ ar G h q (q + 13) = some (cellH κ ar (x0 h q) S0 (.re)) := by
  exact (frG_b (by omega) (g_up_o (by omega) (g_up_o (by omega) (g_up_o (by omega) (g_up_o (by omega) (g_up_o (by omega) (thG_b (by omega) g_up_s)))))))
theorem Wi_fs {κ : Nat → Nat} {ar : Nat → ClassId} {G : gW} {h q : Nat} (hq : h < q) : Wi κ ar G h q (q + 134) = some (cellH κ ar (x0 h q) S0 (.fs)) := by
  refine Eq.trans ?_ (congrArg (fun Z9 => some (.inl (ar 5, 12, .inr (.inr (.inr (.inr Z9)))) : va_E)) (fF_e (q := q) (P := fun k9 => (x0 h q).f (.fr k9)) (fun _ => rfl)))
  exact (frG_b (by omega) (g_up_o (by omega) (g_up_o (by omega) (g_up_o (by omega) g_up_s))))
theorem Wi_wr {κ : Nat → Nat} {ar : Nat → ClassId} {G : gW} {h q : Nat} (hq : h < q) : Wi κ ar G h q (q + 135) = some (cellH κ ar (x0 h q) S0 (.wr)) := by
  exact (frG_b (by omega) (g_up_o (by omega) (g_up_o (by omega) g_up_s)))
theorem Wi_pl {κ : Nat → Nat} {ar : Nat → ClassId} {G : gW} {h q : Nat} (hq : h < q) : Wi κ ar G h q (q + 136) = some (cellH κ ar (x0 h q) S0 (.pl)) := by
  exact (frG_b (by omega) (g_up_o (by omega) g_up_s))
theorem Wi_th {κ : Nat → Nat} {ar : Nat → ClassId} {G : gW} {h q : Nat} (hq : h < q) (j : Fin 60) : Wi κ ar G h q (q + 14 + 2 * j.val) = some (cellH κ ar (x0 h q) S0 (.th j)) := by
  have hj := j.isLt
  exact (frG_b (by omega) (g_up_o (by omega) (g_up_o (by omega) (g_up_o (by omega) (g_up_o (by omega) (g_up_o (by omega) (thG_e (i := j.val) rfl hj)))))))
theorem Wi_tp {κ : Nat → Nat} {ar : Nat → ClassId} {G : gW} {h q : Nat} (hq : h < q) (j : Fin 60) : Wi κ ar G h q (q + 14 + 2 * j.val + 1) = some (cellH κ ar (x0 h q) S0 (.tp j)) := by
  have hj := j.isLt
  exact (frG_b (by omega) (g_up_o (by omega) (g_up_o (by omega) (g_up_o (by omega) (g_up_o (by omega) (g_up_o (by omega) (thG_d (i := j.val) rfl hj)))))))
theorem Wi_fr {κ : Nat → Nat} {ar : Nat → ClassId} {G : gW} {h q : Nat} (hq : h < q) (j : Fin 12) : Wi κ ar G h q (q + 137 + 4 * j.val) = some (cellH κ ar (x0 h q) S0 (.fr j)) := by
  have hj := j.isLt
  exact (frG_e0 (i := j.val) rfl hj)
theorem Wi_fa {κ : Nat → Nat} {ar : Nat → ClassId} {G : gW} {h q : Nat} (hq : h < q) (j : Fin 12) : Wi κ ar G h q (q + 137 + 4 * j.val + 1) = some (cellH κ ar (x0 h q) S0 (.fa j)) := by
  have hj := j.isLt
  exact (frG_e1 (i := j.val) rfl hj)
theorem Wi_ft {κ : Nat → Nat} {ar : Nat → ClassId} {G : gW} {h q : Nat} (hq : h < q) (j : Fin 12) : Wi κ ar G h q (q + 137 + 4 * j.val + 2) = some (cellH κ ar (x0 h q) S0 (.ft j)) := by
  have hj := j.isLt
  exact (frG_e2 (i := j.val) rfl hj)
theorem Wi_fp {κ : Nat → Nat} {ar : Nat → ClassId} {G : gW} {h q : Nat} (hq : h < q) (j : Fin 12) : Wi κ ar G h q (q + 137 + 4 * j.val + 3) = some (cellH κ ar (x0 h q) S0 (.fp j)) := by
  have hj := j.isLt
  exact (frG_e3 (i := j.val) rfl hj)
theorem Wi_ro {κ : Nat → Nat} {ar : Nat → ClassId} {G : gW} {h q : Nat} (hq : h < q) : Wi κ ar G h q (q + 4) = some (cellH κ ar (x0 h q) S0 (.ro 0)) := by
  exact (frG_b (by omega) (g_up_o (by omega) (g_up_o (by omega) (g_up_o (by omega) (g_up_o (by omega) (g_up_o (by omega) (thG_b (by omega) (g_up_o (by omega) (g_up_o (by omega) (g_up_o (by omega) (g_up_o (by omega) (g_up_o (by omega) (g_up_o (by omega) (g_up_o (by omega) (g_up_o (by omega) (g_up_o (by omega) (g_up_o (by omega) g_up_s)))))))))))))))))
theorem Wi_rl {κ : Nat → Nat} {ar : Nat → ClassId} {G : gW} {h q : Nat} (hq : h < q) : Wi κ ar G h q (q + 5) = some (cellH κ ar (x0 h q) S0 (.rl 0)) := by
  exact (frG_b (by omega) (g_up_o (by omega) (g_up_o (by omega) (g_up_o (by omega) (g_up_o (by omega) (g_up_o (by omega) (thG_b (by omega) (g_up_o (by omega) (g_up_o (by omega) (g_up_o (by omega) (g_up_o (by omega) (g_up_o (by omega) (g_up_o (by omega) (g_up_o (by omega) (g_up_o (by omega) (g_up_o (by omega) g_up_s))))))))))))))))
theorem Wi_rf {κ : Nat → Nat} {ar : Nat → ClassId} {G : gW} {h q : Nat} (hq : h < q) : Wi κ ar G h q (q + 6) = some (cellH κ ar (x0 h q) S0 (.rf 0)) := by
  exact (frG_b (by omega) (g_up_o (by omega) (g_up_o (by omega) (g_up_o (by omega) (g_up_o (by omega) (g_up_o (by omega) (thG_b (by omega) (g_up_o (by omega) (g_up_o (by omega) (g_up_o (by omega) (g_up_o (by omega) (g_up_o (by omega) (g_up_o (by omega) (g_up_o (by omega) (g_up_o (by omega) g_up_s)))))))))))))))
theorem Wi_rg {κ : Nat → Nat} {ar : Nat → ClassId} {G : gW} {h q : Nat} (hq : h < q) : Wi κ ar G h q (q + 7) = some (cellH κ ar (x0 h q) S0 (.rg 0)) := by
  exact (frG_b (by omega) (g_up_o (by omega) (g_up_o (by omega) (g_up_o (by omega) (g_up_o (by omega) (g_up_o (by omega) (thG_b (by omega) (g_up_o (by omega) (g_up_o (by omega) (g_up_o (by omega) (g_up_o (by omega) (g_up_o (by omega) (g_up_o (by omega) (g_up_o (by omega) g_up_s))))))))))))))
theorem Wi_rd {κ : Nat → Nat} {ar : Nat → ClassId} {G : gW} {h q : Nat} (hq : h < q) : Wi κ ar G h q (q + 8) = some (cellH κ ar (x0 h q) S0 (.rd 0)) := by
  exact (frG_b (by omega) (g_up_o (by omega) (g_up_o (by omega) (g_up_o (by omega) (g_up_o (by omega) (g_up_o (by omega) (thG_b (by omega) (g_up_o (by omega) (g_up_o (by omega) (g_up_o (by omega) (g_up_o (by omega) (g_up_o (by omega) (g_up_o (by omega) g_up_s)))))))))))))
theorem Wi_rq {κ : Nat → Nat} {ar : Nat → ClassId} {G : gW} {h q : Nat} (hq : h < q) : Wi κ ar G h q (q + 9) = some (cellH κ ar (x0 h q) S0 (.rq 0)) := by
  exact (frG_b (by omega) (g_up_o (by omega) (g_up_o (by omega) (g_up_o (by omega) (g_up_o (by omega) (g_up_o (by omega) (thG_b (by omega) (g_up_o (by omega) (g_up_o (by omega) (g_up_o (by omega) (g_up_o (by omega) (g_up_o (by omega) g_up_s))))))))))))
theorem Wi_far {κ : Nat → Nat} {ar : Nat → ClassId} {G : gW} {h q a : Nat} {e : va_E} (ha : a < q) (hne : a ≠ h) (he : G a = some e) : Wi κ ar G h q a = some e := (frG_b (by omega) (g_up_o (by omega) (g_up_o (by omega) (g_up_o (by omega) (g_up_o (by omega) (g_up_o (by omega) (thG_b (by omega) (g_up_o (by omega) (g_up_o (by omega) (g_up_o (by omega) (g_up_o (by omega) (g_up_o (by omega) (g_up_o (by omega) (g_up_o (by omega) (g_up_o (by omega) (g_up_o (by omega) (g_up_o (by omega) (g_up_o (by omega) (g_up_o (by omega) (g_up_o (by omega) (g_up_o (by omega) (g_up_o (by omega) (g_up_o (by omega) (g_up_o hne he))))))))))))))))))))))))
theorem init_sub {κ : Nat → Nat} {ar : Nat → ClassId} {G : gW} {h q : Nat} (hq : h < q) (hh : G h = none) (hG : ∀ a, q ≤ a → G a = none) : ∀ a e, ov κ ar (x0 h q) S0 G a = some e → Wi κ ar G h q a = some e := by
  intro a e z
  cases hb : (x0 h q).b a with
  | none =>
    rw [ov_0 hb] at z
    refine Wi_far ?_ (fun y => by rw [y, hh] at z; cases z) z
    rcases Nat.lt_or_ge a q with y | y
    · exact y
    · rw [hG a y] at z; cases z
  | some t =>
    rw [ov_s hb] at z
    obtain ⟨hv, ha⟩ := x0_o hb
    subst ha
    cases z
    rcases t with j | j | j | j | j | j
    · rcases j with ⟨⟩ | ⟨⟩ | ⟨⟩ | ⟨⟩ | ⟨⟩ | ⟨⟩ | ⟨⟩ | ⟨⟩ | ⟨⟩ | ⟨⟩ | ⟨⟩ | ⟨⟩ | ⟨⟩
      · exact Wi_ho hq
      · exact Wi_cl hq
      · exact Wi_ab hq
      · exact Wi_fc hq
      · exact Wi_me hq
      · exact Wi_gl hq
      · exact Wi_ts hq
      · exact Wi_al hq
      · exact Wi_re hq
      · exact Wi_fs hq
      · exact Wi_wr hq
      · exact Wi_pl hq
      · exact absurd (of_decide_eq_true (show decide (0 < 0) = true from hv)) (Nat.lt_irrefl 0)
    · rcases j with j | j
      · exact Wi_th hq j
      · exact Wi_tp hq j
    · rcases j with j | j | j | j
      · exact Wi_fr hq j
      · exact Wi_fa hq j
      · exact Wi_ft hq j
      · exact Wi_fp hq j
    · exact absurd (of_decide_eq_true (show decide (j < 0) = true from hv)) (Nat.not_lt_zero j)
    · rcases j with j | j | j | j | j | j
      · obtain rfl : j = 0 := by have := of_decide_eq_true (show decide (j < 1) = true from hv); omega
        exact Wi_ro hq
      · obtain rfl : j = 0 := by have := of_decide_eq_true (show decide (j < 1) = true from hv); omega
        exact Wi_rl hq
      · obtain rfl : j = 0 := by have := of_decide_eq_true (show decide (j < 1) = true from hv); omega
        exact Wi_rf hq
      · obtain rfl : j = 0 := by have := of_decide_eq_true (show decide (j < 1) = true from hv); omega
        exact Wi_rg hq
      · obtain rfl : j = 0 := by have := of_decide_eq_true (show decide (j < 1) = true from hv); omega
        exact Wi_rd hq
      · obtain rfl : j = 0 := by have := of_decide_eq_true (show decide (j < 1) = true from hv); omega
        exact Wi_rq hq
    · rcases j with j | j
      · exact absurd (of_decide_eq_true (show decide (j < 0) = true from hv)) (Nat.not_lt_zero j)
      · exact absurd (of_decide_eq_true (show decide (j < 0) = true from hv)) (Nat.not_lt_zero j)
theorem x0_far {h q a : Nat} {t : Tg} (z : (x0 h q).b a = some t) : a = h ∨ q ≤ a := by
  obtain ⟨hv, ha⟩ := x0_o z
  subst ha
  rcases t with j | j | j | j | j | j
  · rcases j with ⟨⟩ | ⟨⟩ | ⟨⟩ | ⟨⟩ | ⟨⟩ | ⟨⟩ | ⟨⟩ | ⟨⟩ | ⟨⟩ | ⟨⟩ | ⟨⟩ | ⟨⟩ | ⟨⟩
    · exact Or.inl rfl
    · exact Or.inr (show q ≤ q by omega)
    · exact Or.inr (show q ≤ q + 1 by omega)
    · exact Or.inr (show q ≤ q + 2 by omega)
    · exact Or.inr (show q ≤ q + 3 by omega)
    · exact Or.inr (show q ≤ q + 10 by omega)
    · exact Or.inr (show q ≤ q + 11 by omega)
    · exact Or.inr (show q ≤ q + 12 by omega)
    · exact Or.inr (show q ≤ q + 13 by omega)
    · exact Or.inr (show q ≤ q + 134 by omega)
    · exact Or.inr (show q ≤ q + 135 by omega)
    · exact Or.inr (show q ≤ q + 136 by omega)
    · exact absurd (of_decide_eq_true (show decide (0 < 0) = true from hv)) (Nat.lt_irrefl 0)
  · rcases j with j | j
    · exact Or.inr (show q ≤ q + 14 + 2 * j.val by omega)
    · exact Or.inr (show q ≤ q + 14 + 2 * j.val + 1 by omega)
  · rcases j with j | j | j | j
    · exact Or.inr (show q ≤ q + 137 + 4 * j.val by omega)
    · exact Or.inr (show q ≤ q + 137 + 4 * j.val + 1 by omega)
    · exact Or.inr (show q ≤ q + 137 + 4 * j.val + 2 by omega)
    · exact Or.inr (show q ≤ q + 137 + 4 * j.val + 3 by omega)
  · exact absurd (of_decide_eq_true (show decide (j < 0) = true from hv)) (Nat.not_lt_zero j)
  · rcases j with j | j | j | j | j | j
    · exact Or.inr (show q ≤ q + 4 by omega)
    · exact Or.inr (show q ≤ q + 5 by omega)
    · exact Or.inr (show q ≤ q + 6 by omega)
    · exact Or.inr (show q ≤ q + 7 by omega)
    · exact Or.inr (show q ≤ q + 8 by omega)
    · exact Or.inr (show q ≤ q + 9 by omega)
  · rcases j with j | j
    · exact absurd (of_decide_eq_true (show decide (j < 0) = true from hv)) (Nat.not_lt_zero j)
    · exact absurd (of_decide_eq_true (show decide (j < 0) = true from hv)) (Nat.not_lt_zero j)
