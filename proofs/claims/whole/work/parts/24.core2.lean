/-! A join of roads that differ in a local. -/
section ZC2
variable {p : Program} {l : Launch} {e : Env} {R : Room} {s : State} {m : MethodId} {args : Array Value} {below : List Frame} {meth : Method} {c : Code} {H : Heap} {locs : List Loc} {cells slots : Nat} {Q : State → Prop}
theorem zc_cutL {g : JFrame} (Jp : Array Slot → Prop) {pcJ : Nat} (k1 : ∀ ls1 : Array Slot, Jp ls1 → W p l e R s m args below meth c H locs cells slots Q (F0 m pcJ ls1 [])) (k2 : (∀ ls1 : Array Slot, Jp ls1 → W p l e R s m args below meth c H locs cells slots Q (F0 m pcJ ls1 [])) → W p l e R s m args below meth c H locs cells slots Q g) : W p l e R s m args below meth c H locs cells slots Q g := k2 k1
end ZC2
