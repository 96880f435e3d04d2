/-! ===== a method's places checked in pieces (for the kernel's memory) ===== -/
noncomputable def lchk (T : List aL) (B : List aB) (cs : List (Nat × aC)) (c : aC) (l : aL) : Bool := l.2.1.2.1.all (fun e => Nat.beq e.2.2.1.1 0) && (match mlow l.2.1.1 l.2.2.2 with
  | some d => decide (0 ≤ l.2.2.1 + d)
  | none => false) && bfd B l.1 (fun b => cB (csf cs) (jmp T l) c.2.2.2.1 c.2.2.2.2.2.1 (c.2.1 - 1) c.2.2.2.2.2.2.1 c.2.2.2.2.2.2.2.2.2 b.2.2 b.2.1 l.1 (begin_ l.2.1))
noncomputable def amrest (T : List aL) (c : aC) : Bool := T.any (fun q => Nat.beq q.1 0 && sle (args0 0 c.2.2.1, [], c.2.2.2.2.2.2.2.1) q.2.1) && Nat.ble 1 c.2.1 && Nat.ble c.2.2.2.2.2.1 1 && c.2.2.2.2.1.isEmpty && isF2 c.2.2.2.2.2.2.2.1 && c.2.2.2.2.2.2.2.2.1.isEmpty
theorem all_app {α : Type} {f : α → Bool} {a b : List α} (h1 : a.all f = true) (h2 : b.all f = true) : (a ++ b).all f = true := by
  rw [List.all_append, h1, h2]
  rfl
theorem amchk_of {T : List aL} {B : List aB} {cs : List (Nat × aC)} {c : aC} (h1 : T.all (lchk T B cs c) = true) (h2 : amrest T c = true) : amchk T B cs c = true := by
  unfold amrest at h2
  simp only [Bool.and_eq_true] at h2
  obtain ⟨⟨⟨⟨⟨a, b⟩, c1⟩, d⟩, e⟩, f⟩ := h2
  unfold amchk
  simp only [Bool.and_eq_true]
  exact ⟨⟨⟨⟨⟨⟨h1, a⟩, b⟩, c1⟩, d⟩, e⟩, f⟩
theorem am_okP {T : List aL} {B : List aB} {cs : List (Nat × aC)} {c : aC} {oc : Nat} {ini : Bool} {cc : ByteArray} {maxL : Nat} {rt : Option FieldType} {cd : zK} (hm : zget zM c.1 = some ((c.1, oc, ini, cc, maxL, rt), cd)) (hB : blOK cd B) (hml : Nat.ble ((c.2.2.1.map fun a => bif Nat.beq a.1 1 then 2 else 1).sum) maxL = true) (h1 : T.all (lchk T B cs c) = true) (h2 : amrest T c = true) (hcs : csOK cs) : CtOK c :=
  am_ok' hm hB hml (amchk_of h1 h2) hcs
