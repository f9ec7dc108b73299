section SITES
variable {p : Program} {l : Launch} {e : Env} {R : Room} {s : State} {m : MethodId} {args : Array Value} {below : List Frame} {meth : Method} {c : Code} {H : Heap} {locs : List Loc} {cells slots : Nat} {Q : State → Prop}
variable {pc : Nat} {ls : Array Slot} {rest : List Value} {D : va_G} {ar : Nat → ClassId} {κ : Nat → Nat} {A : Nat → Prop} {a : Nat} {H0 : Heap} {G : gW} {nz nL : Nat} {cc : ByteArray}
theorem inA_RJx00060 : ∀ w ∈ u_ws RJx00060 TJx00060 6, w ∈ lwA := gA_r _ [381, 383, 385, 387, 389, 391] (by decide +kernel) (by decide +kernel)
theorem inA_RJxe14f1 : ∀ w ∈ u_ws RJxe14f1 TJxe14f1 6, w ∈ lwA := gA_r _ [1373, 1374, 1375, 1376, 1377, 1378] (by decide +kernel) (by decide +kernel)
end SITES
theorem bL {a c : Cond} {A : Array Value} {s : State} (h : (Cond.and a c).before A s = true) : a.before A s = true := by
  rw [Cond.before_and, Bool.and_eq_true] at h
  exact h.1
theorem bR {a c : Cond} {A : Array Value} {s : State} (h : (Cond.and a c).before A s = true) : c.before A s = true := by
  rw [Cond.before_and, Bool.and_eq_true] at h
  exact h.2
/-- a part of a condition: so deep, by these turns -/
def subN : Nat → Nat → Cond → Cond
  | 0, _, c => c
  | d + 1, n, c => match c with
    | .and a b => bif n % 2 == 1 then subN d (n / 2) b else subN d (n / 2) a
    | c => c
theorem subN_ok {A : Array Value} {s : State} : ∀ (d n : Nat) (c : Cond), c.before A s = true → (subN d n c).before A s = true := by
  intro d
  induction d with
  | zero => intro n c h; exact h
  | succ d ih =>
    intro n c h
    cases c with
    | and a b =>
      show (bif n % 2 == 1 then subN d (n / 2) b else subN d (n / 2) a).before A s = true
      cases n % 2 == 1 with
      | true => exact ih _ _ (bR h)
      | false => exact ih _ _ (bL h)
    | _ => exact h
theorem nv_at {s : State} {b : Nat} {X : Cond} (hgv : (Jvm.Cond.and given_1 narrow_1).before #[Value.ref b] s = true) (d n : Nat) (h : subN d n narrow_1 = X) : X.before #[Value.ref b] s = true := by
  rw [← h]
  exact subN_ok d n _ (bR hgv)
theorem nv_r {s : State} {b : Nat} {α : Type} (hgv : (Jvm.Cond.and given_1 narrow_1).before #[Value.ref b] s = true) (L : List α) (F : α → Cond) (ps : List (Nat × Nat)) (hp : L.map F = ps.map (fun i => subN i.1 i.2 narrow_1)) : ∀ q ∈ L, (F q).before #[Value.ref b] s = true := by
  intro q hq
  have h : F q ∈ L.map F := List.mem_map.mpr ⟨q, hq, rfl⟩
  rw [hp] at h
  obtain ⟨i, -, hi⟩ := List.mem_map.mp h
  rw [← hi]
  exact subN_ok _ _ _ (bR hgv)
theorem mN_1 {w : Cond} (hg : g_nw w = true) {A : Array Value} {s : State} (h : w.before A s = true) : va_Nw w s := by
  cases w with
  | arrayOver t =>
    cases t with
    | object C => exact h
    | _ => cases hg
  | _ => first | (cases hg; done) | exact va_Nw.of rfl h | exact va_any rfl h
def g_n7 : Cond → Bool
  | .fieldLinkNest _ _ _ _ _ _ => true
  | .methodLinkNest _ _ _ _ => true
  | .castable _ _ => true
  | .declares _ => true
  | .arrayOver (.object _) => true
  | .unhidden _ _ _ => true
  | .publicMethod _ => true
  | _ => false
def g_pv : Cond → Bool
  | .privateMethod x => x.cls == "java/lang/AbstractStringBuilder"
  | _ => false
theorem mN_all : ∀ w ∈ lwN, w ∈ lw_tbl := by
  have e : lwN = lw_tbl.filter g_n7 ++ lw_tbl.filter g_pv := by decide +kernel
  intro w hw
  rw [e] at hw
  rcases List.mem_append.mp hw with h | h
  · exact (List.mem_filter.mp h).1
  · exact (List.mem_filter.mp h).1
def g_sr : Cond → Bool
  | .stringRef _ _ _ => true
  | _ => false
theorem mS_all : ∀ q ∈ lwS, Cond.stringRef q.1 q.2.1 q.2.2 ∈ lw_tbl := by
  have e : lwS.map (fun q => Cond.stringRef q.1 q.2.1 q.2.2) = lw_tbl.filter g_sr := by decide +kernel
  intro q hq
  have h : Cond.stringRef q.1 q.2.1 q.2.2 ∈ lwS.map (fun q => Cond.stringRef q.1 q.2.1 q.2.2) := List.mem_map.mpr ⟨q, hq, rfl⟩
  rw [e] at h
  exact (List.mem_filter.mp h).1
theorem mS_ex {s : State} {b : Nat} (hgv : (Jvm.Cond.and given_1 narrow_1).before #[Value.ref b] s = true) : ∀ q ∈ lwS, (Cond.exactly (.string q.1 q.2.1) "java/lang/String").before #[Value.ref b] s = true :=
  nv_r hgv lwS (fun q => Cond.exactly (.string q.1 q.2.1) "java/lang/String") [(11, 870), (11, 1750), (11, 1526), (11, 1582), (11, 670), (11, 990), (11, 894), (11, 1665), (10, 161), (11, 1953), (11, 1889), (11, 2017), (11, 785), (11, 1745), (11, 2001), (11, 817), (11, 1777), (10, 393), (11, 969), (11, 1641), (11, 745), (11, 1497), (11, 697), (11, 837), (10, 277), (11, 565), (10, 181), (10, 117), (11, 781), (11, 1485), (11, 1005), (10, 349), (11, 1501), (11, 1853), (11, 637), (11, 2045), (12, 3715), (12, 3651), (12, 1955), (12, 1379), (11, 787), (12, 1427), (11, 83), (12, 1875), (11, 819), (11, 371), (12, 3315), (12, 1011), (12, 3339), (12, 1419), (12, 4043), (12, 1835), (12, 939), (12, 1003), (12, 3867), (11, 603), (12, 1339), (12, 3963), (11, 263), (11, 1479), (11, 1255), (11, 1623), (11, 695), (11, 1271), (11, 1167), (12, 4015)] (by decide +kernel)
theorem mD_all {s : State} {b : Nat} (hgv : (Jvm.Cond.and given_1 narrow_1).before #[Value.ref b] s = true) : ∀ q ∈ lwD, (Cond.not (.castable q.1 q.2)).before #[Value.ref b] s = true :=
  nv_r hgv lwD (fun q => Cond.not (.castable q.1 q.2)) [(10, 114), (11, 626), (11, 1906), (11, 1778), (11, 498), (10, 138), (11, 650), (11, 1674), (10, 394), (11, 586), (11, 842), (11, 554), (11, 1578), (10, 298), (10, 426), (11, 938), (11, 1770), (11, 490), (11, 1514), (11, 538), (11, 794), (11, 1818), (10, 346), (11, 858), (11, 1882), (10, 218), (11, 1498), (10, 58)] (by decide +kernel)
theorem mF_all {s : State} {b : Nat} (hts : ∀ w ∈ lw_tbl, w.before #[Value.ref b] s = true) : ∀ q ∈ lwF, va_Fw q.1 q.2.1 q.2.2 s := by
  intro q hq
  obtain rfl := List.mem_singleton.mp hq
  exact va_Fw.of (hts _ (ck_6 _ (List.mem_of_getElem? (i := 85) rfl))) (hts _ (ck_6 _ (List.mem_of_getElem? (i := 84) rfl))) (hts _ (ck_6 _ (List.mem_of_getElem? (i := 99) rfl))) (hts _ (ck_6 _ (List.mem_of_getElem? (i := 97) rfl))) (hts _ (ck_6 _ (List.mem_of_getElem? (i := 95) rfl)))
