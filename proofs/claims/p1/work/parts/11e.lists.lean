section ZGE
variable {p : Program} {l : Launch} {e : Env} {R : Room} {s : State} {m : MethodId} {args : Array Value} {below : List Frame} {meth : Method} {c : Code} {H : Heap} {locs : List Loc} {cells slots : Nat} {Q : State → Prop}
variable {cc : ByteArray} {pc nL : Nat} {ls : Array Slot} {rest : List Value} {D : va_G} {y : Nat → ClassId} {base a : Nat} {S : zS} {Ts : List Cond} {own : String}
/-- ArrayList's empty array is read -/
theorem zgetE (C : CallFix p m c cc nL s args Ts own) (hw : zW D y base S s H locs) {index : Nat} (hlink : Cond.fieldLink own index "java/util/ArrayList" "DEFAULTCAPACITY_EMPTY_ELEMENTDATA" "[Ljava/lang/Object;" ∈ Ts) (hdg : decode cc pc = .ok (.getstatic index, 3))
    (kk : W p l e R s m args below meth c H locs cells slots Q (F0 m (pc + 3) ls (.ref (y 92) :: rest))) : W p l e R s m args below meth c H locs cells slots Q (F0 m pc ls rest) := by
  obtain ⟨hx, hb, hml, hown, hts⟩ := C
  obtain ⟨⟨hZ, hT⟩, -⟩ := hw.1.2.2.2.2.2.2.2.2
  exact va_gets hx hb hZ hw.2.2.1 hown (hts _ hlink) (fun _ h => h) hdg kk
/-- String's kind is read -/
theorem zgetC (C : CallFix p m c cc nL s args Ts own) (hw : zW D y base S s H locs) {index : Nat} (hlink : Cond.fieldLink own index "java/lang/String" "COMPACT_STRINGS" "Z" ∈ Ts) (hdg : decode cc pc = .ok (.getstatic index, 3))
    (kk : W p l e R s m args below meth c H locs cells slots Q (F0 m (pc + 3) ls (.int 1 :: rest))) : W p l e R s m args below meth c H locs cells slots Q (F0 m pc ls rest) := by
  obtain ⟨hx, hb, hml, hown, hts⟩ := C
  obtain ⟨-, hZ, -⟩ := hw.1.2.2.2.2.2.2.2.2
  exact va_gets hx hb hZ hw.2.2.1 hown (hts _ hlink) (fun _ h => h) hdg kk
end ZGE
/-- what makes new things alone changes nothing that the class may not -/
theorem zCls.gv {S S' : zS} {v : Nat} (h : zGv S S' v) (hv : zK S v = 0) : zCls S S' := fun b hb => by
  obtain ⟨a1, a2, a3, a4, a5, a6⟩ := h b hb (zne hv hb)
  exact ⟨a1, a3, a5, a6, a4 23, fun t _ => a2 t⟩
