
/-- a Parish: 0 it, 1 laws, 2 friend, 3 taste, 4 kind, 5 heat, 6 at, 7 heard -/
def shP (G : GE) (ad : Nat → Nat) : SH := fun k f => match k with
  | 0 => .inr (1, [.ref (ad 1), .ref (ad 2), .ref (ad 3), .ref (ad 4), .ref (ad 5), .ref (ad 6), .ref (ad 7), .int (f 7), .int (f 8), .int (f 9), .int (f 10)])
  | 1 => .inl (G.2.1 0, 4, .inl f)
  | _ => .inl (G.2.1 0, 8, .inl f)
/-- two Parishes -/
def shPP (G : GE) (ad : Nat → Nat) : SH := fun k f => match k with
  | 0 => .inr (1, [.ref (ad 1), .ref (ad 2), .ref (ad 3), .ref (ad 4), .ref (ad 5), .ref (ad 6), .ref (ad 7), .int (f 7), .int (f 8), .int (f 9), .int (f 10)])
  | 1 => .inl (G.2.1 0, 4, .inl f)
  | 8 => .inr (1, [.ref (ad 9), .ref (ad 10), .ref (ad 11), .ref (ad 12), .ref (ad 13), .ref (ad 14), .ref (ad 15), .int (f 7), .int (f 8), .int (f 9), .int (f 10)])
  | 9 => .inl (G.2.1 0, 4, .inl f)
  | _ => .inl (G.2.1 0, 8, .inl f)
/-- a Tape: 0 it, 1 bytes -/
def shB (G : GE) (ad : Nat → Nat) : SH := fun k f => match k with
  | 0 => .inr (4, [.ref (ad 1), .int (f 1), .int (f 2), .int (f 3), .int (f 4)])
  | _ => .inl (G.2.1 1, 200, .inl f)
/-- a Parish (0 to 7) and a Tape (8, 9) -/
def shT (G : GE) (ad : Nat → Nat) : SH := fun k f => match k with
  | 0 => .inr (1, [.ref (ad 1), .ref (ad 2), .ref (ad 3), .ref (ad 4), .ref (ad 5), .ref (ad 6), .ref (ad 7), .int (f 7), .int (f 8), .int (f 9), .int (f 10)])
  | 1 => .inl (G.2.1 0, 4, .inl f)
  | 8 => .inr (4, [.ref (ad 9), .int (f 1), .int (f 2), .int (f 3), .int (f 4)])
  | 9 => .inl (G.2.1 1, 200, .inl f)
  | _ => .inl (G.2.1 0, 8, .inl f)
/-- a Sheet: 0 it, 1 items -/
def shS (G : GE) (ad : Nat → Nat) : SH := fun k f => match k with
  | 0 => .inr (2, [.int (f 0), .int (f 1), .ref (ad 1)])
  | _ => .inl (G.2.1 0, 40, .inl f)
/-- a Shelf (0), and with a Sheet (1, 2) -/
def shH (G : GE) (ad : Nat → Nat) : SH := fun k f => .inr (3, [.int (f 0), .int (f 1), .int (f 2)])
def shHS (G : GE) (ad : Nat → Nat) : SH := fun k f => match k with
  | 0 => .inr (3, [.int (f 0), .int (f 1), .int (f 2)])
  | 1 => .inr (2, [.int (f 0), .int (f 1), .ref (ad 2)])
  | _ => .inl (G.2.1 0, 40, .inl f)
/-- a Doing: 0 it, 1 bodies -/
def shD (G : GE) (ad : Nat → Nat) : SH := fun k f => match k with
  | 0 => .inr (0, [.ref (ad 1), .int (f 1), .int (f 2), .int (f 3), .int (f 4), .int (f 5)])
  | _ => .inl (G.2.1 0, 30, .inl f)
def sh0 : SH := fun _ _ => .inr (0, [])

/-- a WarmGossip: 0 it, 1 now, 9 kept, 17 tried, 25 tape, 27 rows, 38 sheets, 47 shelves, 52 doing -/
def shX (G : GE) (ad : Nat → Nat) : SH := fun k f => match k with
  | 0 => .inr (5, [.ref (ad 1), .ref (ad 9), .ref (ad 17), .int (f 3), .ref (ad 25), .ref (ad 27), .int (f 6), .ref (ad 38), .ref (ad 47), .ref (ad 52)])
  | 1 => .inr (1, [.ref (ad 2), .ref (ad 3), .ref (ad 4), .ref (ad 5), .ref (ad 6), .ref (ad 7), .ref (ad 8), .int (f 7), .int (f 8), .int (f 9), .int (f 10)])
  | 2 => .inl (G.2.1 0, 4, .inl f)
  | 3 => .inl (G.2.1 0, 8, .inl f)
  | 4 => .inl (G.2.1 0, 8, .inl f)
  | 5 => .inl (G.2.1 0, 8, .inl f)
  | 6 => .inl (G.2.1 0, 8, .inl f)
  | 7 => .inl (G.2.1 0, 8, .inl f)
  | 8 => .inl (G.2.1 0, 8, .inl f)
  | 9 => .inr (1, [.ref (ad 10), .ref (ad 11), .ref (ad 12), .ref (ad 13), .ref (ad 14), .ref (ad 15), .ref (ad 16), .int (f 7), .int (f 8), .int (f 9), .int (f 10)])
  | 10 => .inl (G.2.1 0, 4, .inl f)
  | 11 => .inl (G.2.1 0, 8, .inl f)
  | 12 => .inl (G.2.1 0, 8, .inl f)
  | 13 => .inl (G.2.1 0, 8, .inl f)
  | 14 => .inl (G.2.1 0, 8, .inl f)
  | 15 => .inl (G.2.1 0, 8, .inl f)
  | 16 => .inl (G.2.1 0, 8, .inl f)
  | 17 => .inr (1, [.ref (ad 18), .ref (ad 19), .ref (ad 20), .ref (ad 21), .ref (ad 22), .ref (ad 23), .ref (ad 24), .int (f 7), .int (f 8), .int (f 9), .int (f 10)])
  | 18 => .inl (G.2.1 0, 4, .inl f)
  | 19 => .inl (G.2.1 0, 8, .inl f)
  | 20 => .inl (G.2.1 0, 8, .inl f)
  | 21 => .inl (G.2.1 0, 8, .inl f)
  | 22 => .inl (G.2.1 0, 8, .inl f)
  | 23 => .inl (G.2.1 0, 8, .inl f)
  | 24 => .inl (G.2.1 0, 8, .inl f)
  | 25 => .inr (4, [.ref (ad 26), .int (f 1), .int (f 2), .int (f 3), .int (f 4)])
  | 26 => .inl (G.2.1 1, 200, .inl f)
  | 27 => .inl (G.2.1 2, 10, .inr (.inr (.inr (.inr (fun i => if i < 10 then some (ad (28 + i)) else none)))))
  | 28 => .inl (G.2.1 0, 3, .inl f)
  | 29 => .inl (G.2.1 0, 3, .inl f)
  | 30 => .inl (G.2.1 0, 3, .inl f)
  | 31 => .inl (G.2.1 0, 3, .inl f)
  | 32 => .inl (G.2.1 0, 3, .inl f)
  | 33 => .inl (G.2.1 0, 3, .inl f)
  | 34 => .inl (G.2.1 0, 3, .inl f)
  | 35 => .inl (G.2.1 0, 3, .inl f)
  | 36 => .inl (G.2.1 0, 3, .inl f)
  | 37 => .inl (G.2.1 0, 3, .inl f)
  | 38 => .inl (G.2.1 3, 4, .inr (.inr (.inr (.inr (fun i => if i < 4 then some (ad (39 + 2 * i)) else none)))))
  | 39 => .inr (2, [.int (f 0), .int (f 1), .ref (ad 40)])
  | 40 => .inl (G.2.1 0, 40, .inl f)
  | 41 => .inr (2, [.int (f 0), .int (f 1), .ref (ad 42)])
  | 42 => .inl (G.2.1 0, 40, .inl f)
  | 43 => .inr (2, [.int (f 0), .int (f 1), .ref (ad 44)])
  | 44 => .inl (G.2.1 0, 40, .inl f)
  | 45 => .inr (2, [.int (f 0), .int (f 1), .ref (ad 46)])
  | 46 => .inl (G.2.1 0, 40, .inl f)
  | 47 => .inl (G.2.1 4, 4, .inr (.inr (.inr (.inr (fun i => if i < 4 then some (ad (48 + i)) else none)))))
  | 48 => .inr (3, [.int (f 0), .int (f 1), .int (f 2)])
  | 49 => .inr (3, [.int (f 0), .int (f 1), .int (f 2)])
  | 50 => .inr (3, [.int (f 0), .int (f 1), .int (f 2)])
  | 51 => .inr (3, [.int (f 0), .int (f 1), .int (f 2)])
  | 52 => .inr (0, [.ref (ad 53), .int (f 1), .int (f 2), .int (f 3), .int (f 4), .int (f 5)])
  | _ => .inl (G.2.1 0, 30, .inl f)

/-- a WarmGossipModel: 0 it, then its rows: 1 s, 2 held, 3 aside, 4 before, 5 tape, 6 rows, 7 sortOf, 8 sizeOf, 9 numbers, 10 holdsWhat, 11 holdsWhich, 12 holdsMany, 13 bodies -/
def shM (G : GE) (ad : Nat → Nat) : SH := fun k f => match k with
  | 0 => .inr (6, [.ref (ad 1), .ref (ad 2), .ref (ad 3), .ref (ad 4), .int (f 4), .ref (ad 5), .int (f 6), .int (f 7), .int (f 8), .int (f 9), .int (f 10), .int (f 11), .ref (ad 6), .int (f 13), .ref (ad 7), .ref (ad 8), .ref (ad 9), .ref (ad 10), .ref (ad 11), .ref (ad 12), .ref (ad 13), .int (f 21), .int (f 22), .int (f 23), .int (f 24), .int (f 25)])
  | 1 => .inl (G.2.1 0, 63, .inl f)
  | 2 => .inl (G.2.1 0, 63, .inl f)
  | 3 => .inl (G.2.1 0, 63, .inl f)
  | 4 => .inl (G.2.1 0, 63, .inl f)
  | 5 => .inl (G.2.1 0, 200, .inl f)
  | 6 => .inl (G.2.1 0, 30, .inl f)
  | 7 => .inl (G.2.1 0, 4, .inl f)
  | 8 => .inl (G.2.1 0, 4, .inl f)
  | 9 => .inl (G.2.1 0, 160, .inl f)
  | 10 => .inl (G.2.1 0, 4, .inl f)
  | 11 => .inl (G.2.1 0, 4, .inl f)
  | 12 => .inl (G.2.1 0, 4, .inl f)
  | _ => .inl (G.2.1 0, 30, .inl f)

def shL (G : GE) (ad : Nat → Nat) : SH := fun k f => if k < 54 then shX G ad k f else shM G (fun j => ad (54 + j)) (k - 54) f

theorem io_c {n : Nat} {P : Nat → Prop} (h : ∀ k : Fin n, P k.val) : ∀ k, k < n → P k := fun k hk => h ⟨k, hk⟩

theorem em_XP1 {G : GE} {ad : Nat → Nat} {M : WM} : EM 54 8 ad (fun k => ad (1 + k)) (shX G ad) (shP G (fun k => ad (1 + k))) M (fun k => M (1 + k)) (emb 1 8 M) := EM.block 1 (le_b rfl) (fun k hk f => by
  match k, hk with
  | 0, _ => rfl
  | 1, _ => rfl
  | 2, _ => rfl
  | 3, _ => rfl
  | 4, _ => rfl
  | 5, _ => rfl
  | 6, _ => rfl
  | 7, _ => rfl
  )

theorem em_XP9 {G : GE} {ad : Nat → Nat} {M : WM} : EM 54 8 ad (fun k => ad (9 + k)) (shX G ad) (shP G (fun k => ad (9 + k))) M (fun k => M (9 + k)) (emb 9 8 M) := EM.block 9 (le_b rfl) (fun k hk f => by
  match k, hk with
  | 0, _ => rfl
  | 1, _ => rfl
  | 2, _ => rfl
  | 3, _ => rfl
  | 4, _ => rfl
  | 5, _ => rfl
  | 6, _ => rfl
  | 7, _ => rfl
  )

theorem em_XP17 {G : GE} {ad : Nat → Nat} {M : WM} : EM 54 8 ad (fun k => ad (17 + k)) (shX G ad) (shP G (fun k => ad (17 + k))) M (fun k => M (17 + k)) (emb 17 8 M) := EM.block 17 (le_b rfl) (fun k hk f => by
  match k, hk with
  | 0, _ => rfl
  | 1, _ => rfl
  | 2, _ => rfl
  | 3, _ => rfl
  | 4, _ => rfl
  | 5, _ => rfl
  | 6, _ => rfl
  | 7, _ => rfl
  )

theorem em_XT17 {G : GE} {ad : Nat → Nat} {M : WM} : EM 54 10 ad (fun k => ad (17 + k)) (shX G ad) (shT G (fun k => ad (17 + k))) M (fun k => M (17 + k)) (emb 17 10 M) := EM.block 17 (le_b rfl) (fun k hk f => by
  match k, hk with
  | 0, _ => rfl
  | 1, _ => rfl
  | 2, _ => rfl
  | 3, _ => rfl
  | 4, _ => rfl
  | 5, _ => rfl
  | 6, _ => rfl
  | 7, _ => rfl
  | 8, _ => rfl
  | 9, _ => rfl
  )

theorem em_XB25 {G : GE} {ad : Nat → Nat} {M : WM} : EM 54 2 ad (fun k => ad (25 + k)) (shX G ad) (shB G (fun k => ad (25 + k))) M (fun k => M (25 + k)) (emb 25 2 M) := EM.block 25 (le_b rfl) (fun k hk f => by
  match k, hk with
  | 0, _ => rfl
  | 1, _ => rfl
  )

theorem em_TP0 {G : GE} {ad : Nat → Nat} {M : WM} : EM 10 8 ad (fun k => ad (0 + k)) (shT G ad) (shP G (fun k => ad (0 + k))) M (fun k => M (0 + k)) (emb 0 8 M) := EM.block 0 (le_b rfl) (fun k hk f => by
  match k, hk with
  | 0, _ => rfl
  | 1, _ => rfl
  | 2, _ => rfl
  | 3, _ => rfl
  | 4, _ => rfl
  | 5, _ => rfl
  | 6, _ => rfl
  | 7, _ => rfl
  )

theorem em_TB8 {G : GE} {ad : Nat → Nat} {M : WM} : EM 10 2 ad (fun k => ad (8 + k)) (shT G ad) (shB G (fun k => ad (8 + k))) M (fun k => M (8 + k)) (emb 8 2 M) := EM.block 8 (le_b rfl) (fun k hk f => by
  match k, hk with
  | 0, _ => rfl
  | 1, _ => rfl
  )

theorem em_XD52 {G : GE} {ad : Nat → Nat} {M : WM} : EM 54 2 ad (fun k => ad (52 + k)) (shX G ad) (shD G (fun k => ad (52 + k))) M (fun k => M (52 + k)) (emb 52 2 M) := EM.block 52 (le_b rfl) (fun k hk f => by
  match k, hk with
  | 0, _ => rfl
  | 1, _ => rfl
  )

theorem em_XS39 {G : GE} {ad : Nat → Nat} {M : WM} : EM 54 2 ad (fun k => ad (39 + k)) (shX G ad) (shS G (fun k => ad (39 + k))) M (fun k => M (39 + k)) (emb 39 2 M) := EM.block 39 (le_b rfl) (fun k hk f => by
  match k, hk with
  | 0, _ => rfl
  | 1, _ => rfl
  )

theorem em_XS41 {G : GE} {ad : Nat → Nat} {M : WM} : EM 54 2 ad (fun k => ad (41 + k)) (shX G ad) (shS G (fun k => ad (41 + k))) M (fun k => M (41 + k)) (emb 41 2 M) := EM.block 41 (le_b rfl) (fun k hk f => by
  match k, hk with
  | 0, _ => rfl
  | 1, _ => rfl
  )

theorem em_XS43 {G : GE} {ad : Nat → Nat} {M : WM} : EM 54 2 ad (fun k => ad (43 + k)) (shX G ad) (shS G (fun k => ad (43 + k))) M (fun k => M (43 + k)) (emb 43 2 M) := EM.block 43 (le_b rfl) (fun k hk f => by
  match k, hk with
  | 0, _ => rfl
  | 1, _ => rfl
  )

theorem em_XS45 {G : GE} {ad : Nat → Nat} {M : WM} : EM 54 2 ad (fun k => ad (45 + k)) (shX G ad) (shS G (fun k => ad (45 + k))) M (fun k => M (45 + k)) (emb 45 2 M) := EM.block 45 (le_b rfl) (fun k hk f => by
  match k, hk with
  | 0, _ => rfl
  | 1, _ => rfl
  )

theorem em_XH48 {G : GE} {ad : Nat → Nat} {M : WM} : EM 54 1 ad (fun k => ad (48 + k)) (shX G ad) (shH G (fun k => ad (48 + k))) M (fun k => M (48 + k)) (emb 48 1 M) := EM.block 48 (le_b rfl) (fun k hk f => by
  match k, hk with
  | 0, _ => rfl
  )

theorem em_XH49 {G : GE} {ad : Nat → Nat} {M : WM} : EM 54 1 ad (fun k => ad (49 + k)) (shX G ad) (shH G (fun k => ad (49 + k))) M (fun k => M (49 + k)) (emb 49 1 M) := EM.block 49 (le_b rfl) (fun k hk f => by
  match k, hk with
  | 0, _ => rfl
  )

theorem em_XH50 {G : GE} {ad : Nat → Nat} {M : WM} : EM 54 1 ad (fun k => ad (50 + k)) (shX G ad) (shH G (fun k => ad (50 + k))) M (fun k => M (50 + k)) (emb 50 1 M) := EM.block 50 (le_b rfl) (fun k hk f => by
  match k, hk with
  | 0, _ => rfl
  )

theorem em_XH51 {G : GE} {ad : Nat → Nat} {M : WM} : EM 54 1 ad (fun k => ad (51 + k)) (shX G ad) (shH G (fun k => ad (51 + k))) M (fun k => M (51 + k)) (emb 51 1 M) := EM.block 51 (le_b rfl) (fun k hk f => by
  match k, hk with
  | 0, _ => rfl
  )

theorem em_XPP17_1 {G : GE} {ad : Nat → Nat} {M : WM} : EM 54 16 ad (fun k => ad (io2 17 8 1 k)) (shX G ad) (shPP G (fun k => ad (io2 17 8 1 k))) M (fun k => M (io2 17 8 1 k)) (emb2 17 8 1 8 M) := EM.block2 (n := 8) (n2 := 8) 17 1 (le_b rfl) (le_b rfl) (by omega) (fun k hk f => by
  match k, hk with
  | 0, _ => rfl
  | 1, _ => rfl
  | 2, _ => rfl
  | 3, _ => rfl
  | 4, _ => rfl
  | 5, _ => rfl
  | 6, _ => rfl
  | 7, _ => rfl
  | 8, _ => rfl
  | 9, _ => rfl
  | 10, _ => rfl
  | 11, _ => rfl
  | 12, _ => rfl
  | 13, _ => rfl
  | 14, _ => rfl
  | 15, _ => rfl
  | j + 16, hj => exact absurd hj (by omega)
  )

theorem em_XPP1_17 {G : GE} {ad : Nat → Nat} {M : WM} : EM 54 16 ad (fun k => ad (io2 1 8 17 k)) (shX G ad) (shPP G (fun k => ad (io2 1 8 17 k))) M (fun k => M (io2 1 8 17 k)) (emb2 1 8 17 8 M) := EM.block2 (n := 8) (n2 := 8) 1 17 (le_b rfl) (le_b rfl) (by omega) (fun k hk f => by
  match k, hk with
  | 0, _ => rfl
  | 1, _ => rfl
  | 2, _ => rfl
  | 3, _ => rfl
  | 4, _ => rfl
  | 5, _ => rfl
  | 6, _ => rfl
  | 7, _ => rfl
  | 8, _ => rfl
  | 9, _ => rfl
  | 10, _ => rfl
  | 11, _ => rfl
  | 12, _ => rfl
  | 13, _ => rfl
  | 14, _ => rfl
  | 15, _ => rfl
  | j + 16, hj => exact absurd hj (by omega)
  )

theorem em_XPP9_1 {G : GE} {ad : Nat → Nat} {M : WM} : EM 54 16 ad (fun k => ad (io2 9 8 1 k)) (shX G ad) (shPP G (fun k => ad (io2 9 8 1 k))) M (fun k => M (io2 9 8 1 k)) (emb2 9 8 1 8 M) := EM.block2 (n := 8) (n2 := 8) 9 1 (le_b rfl) (le_b rfl) (by omega) (fun k hk f => by
  match k, hk with
  | 0, _ => rfl
  | 1, _ => rfl
  | 2, _ => rfl
  | 3, _ => rfl
  | 4, _ => rfl
  | 5, _ => rfl
  | 6, _ => rfl
  | 7, _ => rfl
  | 8, _ => rfl
  | 9, _ => rfl
  | 10, _ => rfl
  | 11, _ => rfl
  | 12, _ => rfl
  | 13, _ => rfl
  | 14, _ => rfl
  | 15, _ => rfl
  | j + 16, hj => exact absurd hj (by omega)
  )

theorem em_XPP1_9 {G : GE} {ad : Nat → Nat} {M : WM} : EM 54 16 ad (fun k => ad (io2 1 8 9 k)) (shX G ad) (shPP G (fun k => ad (io2 1 8 9 k))) M (fun k => M (io2 1 8 9 k)) (emb2 1 8 9 8 M) := EM.block2 (n := 8) (n2 := 8) 1 9 (le_b rfl) (le_b rfl) (by omega) (fun k hk f => by
  match k, hk with
  | 0, _ => rfl
  | 1, _ => rfl
  | 2, _ => rfl
  | 3, _ => rfl
  | 4, _ => rfl
  | 5, _ => rfl
  | 6, _ => rfl
  | 7, _ => rfl
  | 8, _ => rfl
  | 9, _ => rfl
  | 10, _ => rfl
  | 11, _ => rfl
  | 12, _ => rfl
  | 13, _ => rfl
  | 14, _ => rfl
  | 15, _ => rfl
  | j + 16, hj => exact absurd hj (by omega)
  )

theorem em_XHS48_39 {G : GE} {ad : Nat → Nat} {M : WM} : EM 54 3 ad (fun k => ad (io2 48 1 39 k)) (shX G ad) (shHS G (fun k => ad (io2 48 1 39 k))) M (fun k => M (io2 48 1 39 k)) (emb2 48 1 39 2 M) := EM.block2 (n := 1) (n2 := 2) 48 39 (le_b rfl) (le_b rfl) (by omega) (fun k hk f => by
  match k, hk with
  | 0, _ => rfl
  | 1, _ => rfl
  | 2, _ => rfl
  )

theorem em_XHS48_41 {G : GE} {ad : Nat → Nat} {M : WM} : EM 54 3 ad (fun k => ad (io2 48 1 41 k)) (shX G ad) (shHS G (fun k => ad (io2 48 1 41 k))) M (fun k => M (io2 48 1 41 k)) (emb2 48 1 41 2 M) := EM.block2 (n := 1) (n2 := 2) 48 41 (le_b rfl) (le_b rfl) (by omega) (fun k hk f => by
  match k, hk with
  | 0, _ => rfl
  | 1, _ => rfl
  | 2, _ => rfl
  )

theorem em_XHS48_43 {G : GE} {ad : Nat → Nat} {M : WM} : EM 54 3 ad (fun k => ad (io2 48 1 43 k)) (shX G ad) (shHS G (fun k => ad (io2 48 1 43 k))) M (fun k => M (io2 48 1 43 k)) (emb2 48 1 43 2 M) := EM.block2 (n := 1) (n2 := 2) 48 43 (le_b rfl) (le_b rfl) (by omega) (fun k hk f => by
  match k, hk with
  | 0, _ => rfl
  | 1, _ => rfl
  | 2, _ => rfl
  )

theorem em_XHS48_45 {G : GE} {ad : Nat → Nat} {M : WM} : EM 54 3 ad (fun k => ad (io2 48 1 45 k)) (shX G ad) (shHS G (fun k => ad (io2 48 1 45 k))) M (fun k => M (io2 48 1 45 k)) (emb2 48 1 45 2 M) := EM.block2 (n := 1) (n2 := 2) 48 45 (le_b rfl) (le_b rfl) (by omega) (fun k hk f => by
  match k, hk with
  | 0, _ => rfl
  | 1, _ => rfl
  | 2, _ => rfl
  )

theorem em_XHS49_39 {G : GE} {ad : Nat → Nat} {M : WM} : EM 54 3 ad (fun k => ad (io2 49 1 39 k)) (shX G ad) (shHS G (fun k => ad (io2 49 1 39 k))) M (fun k => M (io2 49 1 39 k)) (emb2 49 1 39 2 M) := EM.block2 (n := 1) (n2 := 2) 49 39 (le_b rfl) (le_b rfl) (by omega) (fun k hk f => by
  match k, hk with
  | 0, _ => rfl
  | 1, _ => rfl
  | 2, _ => rfl
  )

theorem em_XHS49_41 {G : GE} {ad : Nat → Nat} {M : WM} : EM 54 3 ad (fun k => ad (io2 49 1 41 k)) (shX G ad) (shHS G (fun k => ad (io2 49 1 41 k))) M (fun k => M (io2 49 1 41 k)) (emb2 49 1 41 2 M) := EM.block2 (n := 1) (n2 := 2) 49 41 (le_b rfl) (le_b rfl) (by omega) (fun k hk f => by
  match k, hk with
  | 0, _ => rfl
  | 1, _ => rfl
  | 2, _ => rfl
  )

theorem em_XHS49_43 {G : GE} {ad : Nat → Nat} {M : WM} : EM 54 3 ad (fun k => ad (io2 49 1 43 k)) (shX G ad) (shHS G (fun k => ad (io2 49 1 43 k))) M (fun k => M (io2 49 1 43 k)) (emb2 49 1 43 2 M) := EM.block2 (n := 1) (n2 := 2) 49 43 (le_b rfl) (le_b rfl) (by omega) (fun k hk f => by
  match k, hk with
  | 0, _ => rfl
  | 1, _ => rfl
  | 2, _ => rfl
  )

theorem em_XHS49_45 {G : GE} {ad : Nat → Nat} {M : WM} : EM 54 3 ad (fun k => ad (io2 49 1 45 k)) (shX G ad) (shHS G (fun k => ad (io2 49 1 45 k))) M (fun k => M (io2 49 1 45 k)) (emb2 49 1 45 2 M) := EM.block2 (n := 1) (n2 := 2) 49 45 (le_b rfl) (le_b rfl) (by omega) (fun k hk f => by
  match k, hk with
  | 0, _ => rfl
  | 1, _ => rfl
  | 2, _ => rfl
  )

theorem em_XHS50_39 {G : GE} {ad : Nat → Nat} {M : WM} : EM 54 3 ad (fun k => ad (io2 50 1 39 k)) (shX G ad) (shHS G (fun k => ad (io2 50 1 39 k))) M (fun k => M (io2 50 1 39 k)) (emb2 50 1 39 2 M) := EM.block2 (n := 1) (n2 := 2) 50 39 (le_b rfl) (le_b rfl) (by omega) (fun k hk f => by
  match k, hk with
  | 0, _ => rfl
  | 1, _ => rfl
  | 2, _ => rfl
  )

theorem em_XHS50_41 {G : GE} {ad : Nat → Nat} {M : WM} : EM 54 3 ad (fun k => ad (io2 50 1 41 k)) (shX G ad) (shHS G (fun k => ad (io2 50 1 41 k))) M (fun k => M (io2 50 1 41 k)) (emb2 50 1 41 2 M) := EM.block2 (n := 1) (n2 := 2) 50 41 (le_b rfl) (le_b rfl) (by omega) (fun k hk f => by
  match k, hk with
  | 0, _ => rfl
  | 1, _ => rfl
  | 2, _ => rfl
  )

theorem em_XHS50_43 {G : GE} {ad : Nat → Nat} {M : WM} : EM 54 3 ad (fun k => ad (io2 50 1 43 k)) (shX G ad) (shHS G (fun k => ad (io2 50 1 43 k))) M (fun k => M (io2 50 1 43 k)) (emb2 50 1 43 2 M) := EM.block2 (n := 1) (n2 := 2) 50 43 (le_b rfl) (le_b rfl) (by omega) (fun k hk f => by
  match k, hk with
  | 0, _ => rfl
  | 1, _ => rfl
  | 2, _ => rfl
  )

theorem em_XHS50_45 {G : GE} {ad : Nat → Nat} {M : WM} : EM 54 3 ad (fun k => ad (io2 50 1 45 k)) (shX G ad) (shHS G (fun k => ad (io2 50 1 45 k))) M (fun k => M (io2 50 1 45 k)) (emb2 50 1 45 2 M) := EM.block2 (n := 1) (n2 := 2) 50 45 (le_b rfl) (le_b rfl) (by omega) (fun k hk f => by
  match k, hk with
  | 0, _ => rfl
  | 1, _ => rfl
  | 2, _ => rfl
  )

theorem em_XHS51_39 {G : GE} {ad : Nat → Nat} {M : WM} : EM 54 3 ad (fun k => ad (io2 51 1 39 k)) (shX G ad) (shHS G (fun k => ad (io2 51 1 39 k))) M (fun k => M (io2 51 1 39 k)) (emb2 51 1 39 2 M) := EM.block2 (n := 1) (n2 := 2) 51 39 (le_b rfl) (le_b rfl) (by omega) (fun k hk f => by
  match k, hk with
  | 0, _ => rfl
  | 1, _ => rfl
  | 2, _ => rfl
  )

theorem em_XHS51_41 {G : GE} {ad : Nat → Nat} {M : WM} : EM 54 3 ad (fun k => ad (io2 51 1 41 k)) (shX G ad) (shHS G (fun k => ad (io2 51 1 41 k))) M (fun k => M (io2 51 1 41 k)) (emb2 51 1 41 2 M) := EM.block2 (n := 1) (n2 := 2) 51 41 (le_b rfl) (le_b rfl) (by omega) (fun k hk f => by
  match k, hk with
  | 0, _ => rfl
  | 1, _ => rfl
  | 2, _ => rfl
  )

theorem em_XHS51_43 {G : GE} {ad : Nat → Nat} {M : WM} : EM 54 3 ad (fun k => ad (io2 51 1 43 k)) (shX G ad) (shHS G (fun k => ad (io2 51 1 43 k))) M (fun k => M (io2 51 1 43 k)) (emb2 51 1 43 2 M) := EM.block2 (n := 1) (n2 := 2) 51 43 (le_b rfl) (le_b rfl) (by omega) (fun k hk f => by
  match k, hk with
  | 0, _ => rfl
  | 1, _ => rfl
  | 2, _ => rfl
  )

theorem em_XHS51_45 {G : GE} {ad : Nat → Nat} {M : WM} : EM 54 3 ad (fun k => ad (io2 51 1 45 k)) (shX G ad) (shHS G (fun k => ad (io2 51 1 45 k))) M (fun k => M (io2 51 1 45 k)) (emb2 51 1 45 2 M) := EM.block2 (n := 1) (n2 := 2) 51 45 (le_b rfl) (le_b rfl) (by omega) (fun k hk f => by
  match k, hk with
  | 0, _ => rfl
  | 1, _ => rfl
  | 2, _ => rfl
  )

