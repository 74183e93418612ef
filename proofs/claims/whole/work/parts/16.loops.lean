/-! for loops: other lists of the locals; numbers that are known -/
def subL : List (Nat × AV) → List (Nat × AV) → Prop
  | [], _ => True
  | q :: t, L => lk L q.1 = some q.2 ∧ subL t L
theorem subL_mem : ∀ {L' L : List (Nat × AV)}, subL L' L → ∀ q ∈ L', q ∈ L
  | [], _, _, _, h => by cases h
  | a :: t, L, h, q, hq => by
    rcases List.mem_cons.mp hq with rfl | h1
    · exact lk_mem h.1
    · exact subL_mem h.2 q h1
section GL
variable {X : Xt} {Y : Yt} {cc : ByteArray} {nL : Nat} {own : String} {cells slots : Nat} {S : Mm} {pc : Nat} {L : List (Nat × AV)} {st : List AV}
theorem g_sub {L' : List (Nat × AV)} (h : subL L' L) (k : G X Y cells slots S pc L' st) : G X Y cells slots S pc L st :=
  fun ad H locs ls hI hl => k ad H locs ls hI ⟨hl.1, hl.2.1, fun q hq => hl.2.2 q (by
    obtain ⟨a, ha, rfl⟩ := List.mem_map.mp hq
    exact List.mem_map.mpr ⟨a, subL_mem h a ha, rfl⟩)⟩
theorem g_subR {L' : List (Nat × AV)} (k : G X Y cells slots S pc L' st) (h : subL L' L) : G X Y cells slots S pc L st := g_sub h k
theorem g_iincN (C : Cx X Y cc nL own) {i w : Nat} {n : Int} (c : Nat) (hd : decode cc pc = .ok (.iinc i n, 3)) (hl0 : lk L i = some (vi (nI w))) (hn : i < nL) (hv : Int32.ofInt n = nI c) (k : G X Y cells slots S (pc + 3) (sto L i (vi (nI (w + c)))) st) : G X Y cells slots S pc L st :=
  g_iinc C (nI c) hd hl0 hn hv (by rw [nI_add]; exact k)
end GL
/-- the worth of the first w kinds of coins -/
def wsum (g : Nat → Int32) : Nat → Int32
  | 0 => 0
  | w + 1 => wsum g w + g w * wths w
def csum (g : Nat → Int32) : Nat → Int32
  | 0 => 0
  | w + 1 => csum g w + g w
theorem tab_out {x : Int32} {n : Nat} (hn : n + 1 < 2 ^ 31) (h : ¬ okN (n + 1) x) : x.toInt < 0 ∨ (n : Int) < x.toInt := by
  rcases okN_no hn h with a | a
  · left
    have := Int32.lt_iff_toInt_lt.mp a
    simpa using this
  · right
    have := Int32.le_iff_toInt_le.mp a
    rw [nI_toInt hn] at this
    omega
def blw (p : Int32) : Int32 := if p < 10 ∨ ¬ p - p / 10 * 10 = 0 then 1 else 0
