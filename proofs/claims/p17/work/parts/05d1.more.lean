theorem hq_ge {q x N : Nat} (h : q + N ≤ x) (k : Nat) (hk : k < N) : x ≠ q + k := by omega
theorem hq_gea {q x N a : Nat} (h : q + N ≤ x) (ha : a < q) : x ≠ a := by omega
section HPQ
variable {p : Program} {l : Launch} {e : Env} {R : Room} {s : State} {m : MethodId} {args : Array Value} {below : List Frame} {meth : Method} {c : Code} {H : Heap} {locs : List Loc} {cells slots : Nat} {Q : State → Prop}
variable {pc : Nat} {ls : Array Slot} {rest : List Value} {D : va_G} {cs : Nat → ClassId} {B n mc ms : Nat} {V : hp_V} {st0 : List Value} {aa : Array Value}
theorem hp_callq {post : Option Nat → hp_V → Nat → Prop} (hr : va_Run p l e R s m args below meth c H locs cells slots mc ms (F0 m pc ls st0) rest (hp_QR D cs B post aa) (hp_F B)) (hZ : hp_Z D cs B s V H n locs)
    (kk : ∀ (r : Option Nat) (V1 : hp_V) (n1 : Nat) (H1 : Heap) (locs1 : List Loc), post r V1 n1 → hp_Z D cs B s V1 H1 n1 locs1 → W p l e R s m args below meth c H1 locs1 (cells + mc) (slots + ms) Q (F0 m (pc + 3) ls (va_rf r :: rest))) : W p l e R s m args below meth c H locs cells slots Q (F0 m pc ls st0) :=
  va_callq hr hZ.2.1 (fun _ _ h => h) (fun _ h => h) (fun r u t H1 locs1 ht _ hp hB _ _ hS => kk r u.1 u.2 H1 locs1 hp (hZ.back ht hB hS))
end HPQ
