/-- what the tables must say for an instruction: an answer, a new cell, a call -/
def am_okR (ret : Option FieldType) (e : am_E) : Prop := match e.1 with
  | .ireturn => (e.2.2.1 = 1 ∧ ret = some .boolean) ∨ (e.2.2.1 ≠ 1 ∧ ret = some .int)
  | .lreturn => ret = some .long
  | .areturn => ret = some (.object "java/lang/String")
  | .return_ => ret = none
  | _ => True
def am_okN (own : String) (e : am_E) : Prop := match e.1 with
  | .new idx => ∃ q : vw_C, vwCl[e.2.2.1]? = some q ∧ Cond.classLink own idx q.1 ∈ am_good ∧ Cond.instantiable q.1 q.2.2 ∈ am_good ∧ Cond.initialized q.1 ∈ am_good
  | .newarray t => Cond.arrayClass (newarray.typeOf t) ∈ am_good
  | .anewarray idx => Cond.classLink own idx "LeaningWheel$Big" ∈ am_good
  | _ => True
def am_okL (own : String) (idx n : Nat) (M : am_M) : Prop := (M.1.cls ≠ "java/lang/invoke/MethodHandle" ∧ M.1.cls ≠ "java/lang/invoke/VarHandle" ∧ (parseMethodDescriptor M.1.desc).map (fun d => d.parameters.length) = some n) ∧ Cond.initialized M.1.cls ∈ am_good ∧ M.2.2.1 ≤ 40 ∧ (Cond.methodLink own idx M.1 ∈ am_good ∨ ∃ host, Cond.methodLinkNest own idx M.1 host ∈ am_nst)
def am_okC (mi : Nat → Option am_M) (own : String) (e : am_E) : Prop := match e.1 with
  | .invokestatic idx => if e.2.2.1 = 1001 then (Cond.methodLink own idx arraycopyName ∈ am_good ∧ Cond.native arraycopyName ∈ am_good ∧ Cond.static arraycopyName ∈ am_good ∧ Cond.initialized "java/lang/System" ∈ am_good)
      else ∃ M, mi e.2.2.1 = some M ∧ am_okL own idx e.2.2.2.toNat M ∧ Cond.static M.1 ∈ am_good
  | .invokevirtual idx => ∃ M, mi e.2.2.1 = some M ∧ am_okL own idx e.2.2.2.toNat M ∧ Cond.instanceMethod M.1 ∈ am_good ∧ Cond.selects M.1.cls M.1 M.1 ∈ am_good ∧ ((M.2.2.2.2 = 99 ∧ M.1.cls = "java/lang/String") ∨ ∃ q, vwCl[M.2.2.2.2]? = some q ∧ q.1 = M.1.cls)
  | .invokespecial idx => if e.2.2.1 = 1000 then (Cond.methodLink own idx Lib.objectInit ∈ am_good ∧ Cond.instanceMethod Lib.objectInit ∈ am_good ∧ Cond.code Lib.objectInit ⟨#[0xb1]⟩ 1 none ∈ am_good)
      else ∃ M, mi e.2.2.1 = some M ∧ am_okL own idx e.2.2.2.toNat M ∧ Cond.instanceMethod M.1 ∈ am_good ∧ M.1.name = "<init>" ∧ M.2.2.2.1 = none
  | _ => True
def am_okE (mi : Nat → Option am_M) (own nm : String) (ret : Option FieldType) (pc : Nat) (e : am_E) : Prop := am_okI own nm pc e ∧ am_okR ret e ∧ am_okN own e ∧ am_okC mi own e
def am_okM (mi : Nat → Option am_M) (M : am_M) (tb : Nat → Option am_E) : Prop := plainFor M.1 = true ∧ Cond.code M.1 M.2.1 M.2.2.1 M.2.2.2.1 ∈ am_good ∧ ∀ pc e, tb pc = some e → decode M.2.1 pc = .ok (e.1, e.2.1) ∧ am_okE mi M.1.cls M.1.name M.2.2.2.1 pc e
