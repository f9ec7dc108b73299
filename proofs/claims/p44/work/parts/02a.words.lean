/-! the words of the tables that a method may hand on: one list for all methods -/
def lwA : List Cond := lw_tbl.filter goodWord
theorem lwA_in : ∀ w ∈ lwA, w ∈ lw_tbl := fun w h => (List.mem_filter.mp h).1
theorem lwA_mk {w : Cond} (h : w ∈ lw_tbl) (g : goodWord w = true) : w ∈ lwA := List.mem_filter.mpr ⟨h, g⟩
theorem lwA_good : ∀ w ∈ lwA, (w.onTables && w.keeps) = true ∨ ∃ ty, w = .arrayClass ty := fun w h => good_of_word (List.mem_filter.mp h).2
theorem gA_r (ws : List Cond) (ps : List Nat) (hp : ws = ps.filterMap (fun i => lw_tbl[i]?)) (h : ws.all goodWord = true) : ∀ w ∈ ws, w ∈ lwA := fun w hw => lwA_mk (goodIn_r ws ps hp h w hw).1 (List.all_eq_true.mp h w hw)
theorem gA_f {L : List Cond} (h : ∀ w ∈ L.filter goodWord, w ∈ lw_tbl) : ∀ w ∈ L.filter goodWord, w ∈ lwA := fun w hw => lwA_mk (h w hw) (List.mem_filter.mp hw).2
/-- a callee's words: its own code, and the list -/
abbrev lwC (y : MethodName) (cc : ByteArray) (n : Nat) (r : Option FieldType) : List Cond := Cond.code y cc n r :: lwA
abbrev lwCW (y : MethodName) (cc : ByteArray) (n : Nat) (r : Option FieldType) (hh : List (Nat × Nat × Nat × Nat)) : List Cond := Cond.codeWith y cc n r hh :: lwA
theorem gd {c : Cond} (h : c ∈ lwA) : GoodIn lwA (c :: lwA) := fun w hw => (List.mem_cons.mp hw).elim (fun e => by rw [e]; exact ⟨h, lwA_good _ h⟩) (fun h1 => ⟨h1, lwA_good _ h1⟩)
theorem gdV {own C : String} {idx : Nat} {y : MethodName} {c : Cond} (h1 : Cond.methodLink own idx y ∈ lwA) (h2 : Cond.instanceMethod y ∈ lwA) (h3 : Cond.selects C y y ∈ lwA) (h4 : Cond.initialized C ∈ lwA) (h5 : c ∈ lwA) : GoodIn lwA (wsV own idx C y (c :: lwA)) := by
  intro w hw
  have key : w ∈ lwA := by
    unfold wsV at hw
    rcases List.mem_append.mp hw with h | h
    · simp only [List.mem_cons, List.not_mem_nil, or_false] at h
      rcases h with rfl | rfl | rfl | rfl <;> assumption
    · exact (gd h5 w h).1
  exact ⟨key, lwA_good _ key⟩
theorem gdS {own : String} {idx : Nat} {y : MethodName} {c : Cond} (h1 : Cond.methodLink own idx y ∈ lwA) (h2 : Cond.static y ∈ lwA) (h4 : Cond.initialized own ∈ lwA) (h5 : c ∈ lwA) : GoodIn lwA (wsS own idx y (c :: lwA)) := by
  intro w hw
  have key : w ∈ lwA := by
    unfold wsS at hw
    rcases List.mem_append.mp hw with h | h
    · simp only [List.mem_cons, List.not_mem_nil, or_false] at h
      rcases h with rfl | rfl | rfl <;> assumption
    · exact (gd h5 w h).1
  exact ⟨key, lwA_good _ key⟩
theorem gdT {own : String} {idx : Nat} {y : MethodName} {c : Cond} (h1 : Cond.methodLink own idx y ∈ lwA) (h2 : Cond.static y ∈ lwA) (h4 : Cond.initialized y.cls ∈ lwA) (h5 : c ∈ lwA) : GoodIn lwA (va_wsS own idx y (c :: lwA)) := by
  intro w hw
  have key : w ∈ lwA := by
    unfold va_wsS at hw
    rcases List.mem_append.mp hw with h | h
    · simp only [List.mem_cons, List.not_mem_nil, or_false] at h
      rcases h with rfl | rfl | rfl <;> assumption
    · exact (gd h5 w h).1
  exact ⟨key, lwA_good _ key⟩
/-- the room of a method that stands d calls deep -/
abbrev rD (d c n : Nat) : Room := { frames := d, cells := c, slots := n, locals := 45 * d }
