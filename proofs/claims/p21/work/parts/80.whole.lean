/-! The law's walk. -/
noncomputable section XWhole
theorem p_ctl (xs : Nat → Int32) (n : Nat) {sf : Option Nat} (hsf : sf = none ∨ sf = some 1200000) : ∀ j c, c ∈ x_CTl j → vCtSem x_KT x_tb x_tyl (x_otS xs n sf) j c := by
  intro j c hc
  unfold x_CTl at hc
  split at hc
  · rename_i h
    subst h
    rcases List.mem_singleton.mp hc with rfl
    exact p_posts
  split at hc
  · cases hc
  · exact x_allS xs n hsf j c hc
theorem whole_start {p : Program} {e : Env} {s : State} {m : MethodId} {below : List Frame} {meth : Method} {c : Code} (l : Launch) (hflags : l.flags = flags0) {b L : Nat} {xs : Nat → Int32} (hL : L ≤ 3584) (C0 : lw_At p s m meth c b L xs) : W p l e room_1 s m #[Value.ref b] below meth c s.heap [] 0 0 (lw_Z below #[Value.ref b] s) (entryFrame m ([Value.ref b] : List Value).toArray 4) := by
  refine x_lawS l C0 (fun sf hsf => lw_start hL (p_ctl xs L hsf) ?_ (p_blk xs L hL hsf))
  rcases hsf with rfl | rfl
  · exact lwK_a
  · exact lwK_b
end XWhole
