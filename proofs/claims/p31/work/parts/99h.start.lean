/-! THE LAW, from its entry to its end -/
theorem whole_start {p : Program} {e : Env} {s : State} {m : MethodId} {below : List Frame} {meth : Method} {c : Code} (l : Launch) {b L : Nat} {xs : Nat → Int32} (hL : L ≤ 3072) (C0 : lw_At p s m meth c b L xs) : W p l e room_1 s m #[Value.ref b] below meth c s.heap [] 0 0 (lw_Z below #[Value.ref b] s) (entryFrame m ([Value.ref b] : List Value).toArray 4) :=
  lw_whole l lw_F1_ok lw_F2_ok (fun k as h => lw_hcc en_all l (k, as) h) (fun k as h => lw_hcr en_all l (k, as) h) f2_b0ok lw_s0_ok hL C0
