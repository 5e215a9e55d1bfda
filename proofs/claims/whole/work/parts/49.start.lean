/-- the law, from its entry -/
theorem whole_start {p : Program} {e : Env} {s : State} {m : MethodId} {below : List Frame} {meth : Method} {c : Code} (l : Launch) (hflags : l.flags = flags0) {b L : Nat} {xs : Nat → Int32} (hL : L ≤ 2560) (C0 : lw_At p s m meth c b L xs) : W p l e room_1 s m #[Value.ref b] below meth c s.heap [] 0 0 (lw_Z below #[Value.ref b] s) (entryFrame m ([Value.ref b] : List Value).toArray 4) := by
  obtain ⟨hx, hb, hr, hml, hown, hts, hX, hbl, hlocks, hgv⟩ := id C0
  replace hb : c.code = cL_law := hb
  replace hown : s.vm.findClass RL = some m.cls := hown
  have htl : ∀ w ∈ wsL_law, w.before #[Value.ref b] s = true := fun w h => hts w (wsL_law_in w h)
  obtain ⟨D, cI, cB, hK, hAO⟩ := law_K hts
  exact law_open C0 hK hAO (fun g r H locs ls hP hD hS hl => law_loop ⟨hx, hb, hml, hown, htl, hX, hbl, hL, hK⟩ hr hlocks (L + 1) 0 B0_ B0_ B0_ (fun _ => B0_) 0 0 z0_ z0_ z0_ 0 0 0 z0_ z0_ M0_ H locs ls (Nat.zero_le _) (by omega) Rel_0 hP hD hS hl)
