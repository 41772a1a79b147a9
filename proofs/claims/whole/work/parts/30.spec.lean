/-! the document as a function: the file side (host, LENGTH, cache), the openings, the processes -/
/-- there, the host's length, its cells, the log (0 the newest), operations, still to fail -/
abbrev xs_H : Type := (Nat → Bool) × (Nat → Nat) × (Nat → Nat → Int32) × (Nat → Int32) × Nat × Nat
/-- a block: file, number, dirty, cells -/
abbrev xs_B : Type := Nat × Nat × Bool × (Nat → Int32)
/-- host, LENGTH, the cache's blocks, the last used first -/
abbrev xs_F : Type := xs_H × (Nat → Nat) × List xs_B
/-- of (6 * process + descriptor), kind (0 a file, 1 a reading end, 2 a writing end), what (file or pipe), mode, position, the pipes' cells -/
abbrev xs_O : Type := (Nat → Option Nat) × (Nat → Nat) × (Nat → Nat) × (Nat → Nat) × (Nat → Nat) × (Nat → List Int32)
/-- 0 not there, 1 alive, 2 ended; parent; code -/
abbrev xs_T : Type := (Nat → Nat) × (Nat → Nat) × (Nat → Nat)
/-- the file side, policies, openings, processes -/
abbrev xs_S : Type := xs_F × (Nat → Nat) × xs_O × xs_T
def xs_u {α : Type} (f : Nat → α) (k : Nat) (v : α) : Nat → α := fun j => if j = k then v else f j
theorem xs_u_s {α : Type} {f : Nat → α} {k : Nat} {v : α} : xs_u f k v k = v := if_pos rfl
theorem xs_u_n {α : Type} {f : Nat → α} {k j : Nat} {v : α} (h : j ≠ k) : xs_u f k v j = f j := if_neg h
def xs_bi (b : Bool) : Int32 := if b = true then nI 1 else nI 0
/-- a host operation: noted; whether it is done -/
def xs_op (h : xs_H) (o f b : Nat) : xs_H × Bool :=
  ((h.1, h.2.1, h.2.2.1, (fun j => if j = 0 then nI (o + 8 * f + 64 * b + (if h.2.2.2.2.2 = 0 then 0 else 256)) else h.2.2.2.1 (j - 1)), h.2.2.2.2.1 + 1, h.2.2.2.2.2 - 1), decide (h.2.2.2.2.2 = 0))
/-- the host's file has no cells -/
def xs_clear (h : xs_H) (f : Nat) : xs_H := (h.1, xs_u h.2.1 f 0, xs_u h.2.2.1 f (fun _ => 0), h.2.2.2)
def xs_there (h : xs_H) (f : Nat) (b : Bool) : xs_H := (xs_u h.1 f b, h.2)
/-- a block is written out -/
def xs_wr (F : xs_F) (x : xs_B) : xs_F × Bool :=
  let h := (xs_op F.1 1 x.1 x.2.1).1
  if (xs_op F.1 1 x.1 x.2.1).2 = true then
    (((h.1, xs_u h.2.1 x.1 (max (h.2.1 x.1) (min (8 * x.2.1 + 8) (F.2.1 x.1))), xs_u h.2.2.1 x.1 (fun i => if 8 * x.2.1 ≤ i ∧ i < min (8 * x.2.1 + 8) (F.2.1 x.1) then x.2.2.2 (i - 8 * x.2.1) else h.2.2.1 x.1 i), h.2.2.2), F.2), true)
  else ((h, F.2), false)
def xs_is (f b : Nat) (x : xs_B) : Bool := decide (x.1 = f ∧ x.2.1 = b)
/-- room for a block: the last one leaves -/
def xs_rm (F : xs_F) : xs_F × Bool :=
  if F.2.2.length < 5 then (F, true)
  else match F.2.2[4]? with
    | none => (F, true)
    | some x => if x.2.2.1 = true then
        (if (xs_wr F x).2 = true then (((xs_wr F x).1.1, F.2.1, F.2.2.take 4), true) else ((xs_wr F x).1, false))
      else ((F.1, F.2.1, F.2.2.take 4), true)
/-- a block comes in, as the last used one -/
def xs_in (F : xs_F) (f b : Nat) : xs_F × Bool :=
  if 8 * b < F.2.1 f then
    (if (xs_op F.1 0 f b).2 = true then (((xs_op F.1 0 f b).1, F.2.1, (f, b, false, fun k => F.1.2.2.1 f (8 * b + k)) :: F.2.2), true) else (((xs_op F.1 0 f b).1, F.2), false))
  else ((F.1, F.2.1, (f, b, false, fun _ => 0) :: F.2.2), true)
/-- to get a block -/
def xs_get (F : xs_F) (f b : Nat) : xs_F × Bool := match F.2.2.findIdx? (xs_is f b) with
  | some i => ((F.1, F.2.1, (F.2.2[i]?).toList ++ F.2.2.eraseIdx i), true)
  | none => if (xs_rm F).2 = true then xs_in (xs_rm F).1 f b else xs_rm F
def xs_drop (F : xs_F) (f : Nat) : xs_F := (F.1, F.2.1, F.2.2.filter (fun x => decide (x.1 ≠ f)))
def xs_len (F : xs_F) (f l : Nat) : xs_F := (F.1, xs_u F.2.1 f l, F.2.2)
/-- sync: the dirty blocks of a file from a number on -/
def xs_sy (f : Nat) : Nat → Nat → xs_F → Int32 × xs_F
  | 0, w, F => (nI w, F)
  | k + 1, w, F => match F.2.2.findIdx? (xs_is f (3 - k)) with
    | none => xs_sy f k w F
    | some i => match F.2.2[i]? with
      | none => xs_sy f k w F
      | some x => if x.2.2.1 = true then
          (if (xs_wr F x).2 = true then xs_sy f k (w + 1) ((xs_wr F x).1.1, F.2.1, F.2.2.set i (x.1, x.2.1, false, x.2.2.2)) else (-8, (xs_wr F x).1))
        else xs_sy f k w F
/-- a number that is one of 0 .. k - 1 -/
def xs_nat (x : Int32) (k : Nat) : Option Nat := if 0 ≤ x.toInt ∧ x.toInt < k then some x.toInt.toNat else none
/-- how many descriptors are of an opening -/
def xs_cnt (g : Nat → Option Nat) (o : Nat) : Nat → Nat
  | 0 => 0
  | k + 1 => xs_cnt g o k + (if g k = some o then 1 else 0)
def xs_used (O : xs_O) (o : Nat) : Bool := decide (xs_cnt O.1 o 42 ≠ 0)
/-- the least number from i on, below i + k, with p -/
def xs_least (p : Nat → Bool) : Nat → Nat → Option Nat
  | _, 0 => none
  | i, k + 1 => if p i = true then some i else xs_least p (i + 1) k
def xs_num (p : Nat → Bool) : Nat → Nat
  | 0 => 0
  | k + 1 => xs_num p k + (if p k = true then 1 else 0)
def xs_free (O : xs_O) (p d : Nat) : Option Nat := xs_least (fun d => decide (O.1 (6 * p + d) = none)) d (6 - d)
def xs_openF (O : xs_O) (f : Nat) : Bool := (xs_least (fun o => xs_used O o && decide (O.2.1 o = 0 ∧ O.2.2.1 o = f)) 0 16).isSome
def xs_end (O : xs_O) (q k : Nat) : Bool := (xs_least (fun o => xs_used O o && decide (O.2.1 o = k ∧ O.2.2.1 o = q)) 0 16).isSome
def xs_ops (O : xs_O) : Nat := xs_num (xs_used O) 16
/-- a new opening -/
def xs_nO (O : xs_O) (k w md : Nat) : Nat × xs_O := match xs_least (fun o => !xs_used O o) 0 16 with
  | none => (0, O)
  | some o => (o, O.1, xs_u O.2.1 o k, xs_u O.2.2.1 o w, xs_u O.2.2.2.1 o md, xs_u O.2.2.2.2.1 o 0, O.2.2.2.2.2)
def xs_of (O : xs_O) (k : Nat) (v : Option Nat) : xs_O := (xs_u O.1 k v, O.2)
def xs_alive (T : xs_T) (x : Int32) : Option Nat := match xs_nat x 7 with
  | none => none
  | some p => if T.1 p = 1 then some p else none
/-- the opening that a descriptor is of, or what to answer -/
def xs_desc (s : xs_S) (p d : Int32) : Int32 ⊕ (Nat × Nat × Nat) := match xs_alive s.2.2.2 p, xs_nat d 6 with
  | some p, some d => (match s.2.2.1.1 (6 * p + d) with
    | none => .inl (-3)
    | some o => .inr (p, d, o))
  | _, _ => .inl (-1)
def xs_put (s : xs_S) (a b c : Int32) : Int32 × xs_S := match xs_nat a 8, xs_nat b 33 with
  | some f, some l => if xs_openF s.2.2.1 f = true ∨ (s.1.2.2.any (fun x => decide (x.1 = f))) = true then (-9, s)
      else (0, (((xs_u s.1.1.1 f true, xs_u s.1.1.2.1 f l, xs_u s.1.1.2.2.1 f (fun i => if i < l then (c + nI (7 * i)) &&& nI 255 else 0), s.1.1.2.2.2), xs_u s.1.2.1 f l, s.1.2.2), s.2))
  | _, _ => (-1, s)
def xs_policy (s : xs_S) (a b : Int32) : Int32 × xs_S := match xs_nat a 8, xs_nat b 3 with
  | some f, some p => (0, (s.1, xs_u s.2.1 f p, s.2.2))
  | _, _ => (-1, s)
def xs_failing (s : xs_S) (a : Int32) : Int32 × xs_S := match xs_nat a 10 with
  | some k => (0, (((s.1.1.1, s.1.1.2.1, s.1.1.2.2.1, s.1.1.2.2.2.1, s.1.1.2.2.2.2.1, k), s.1.2), s.2))
  | none => (-1, s)
def xs_open (s : xs_S) (a b c : Int32) : Int32 × xs_S := match xs_alive s.2.2.2 a, xs_nat b 8, xs_nat c 32 with
  | some p, some f, some md =>
    if s.2.1 f = 0 ∨ (s.1.1.1 f = false ∧ md / 8 % 2 = 0) then (-4, s)
    else if s.2.1 f = 1 ∧ 1 < md then (-5, s)
    else (match xs_free s.2.2.1 p 0 with
      | none => (-2, s)
      | some d => if xs_ops s.2.2.1 = 16 then (-2, s)
        else if s.1.1.1 f = false then
          (if (xs_op s.1.1 2 f 0).2 = true then
            (nI d, ((xs_there (xs_clear (xs_op s.1.1 2 f 0).1 f) f true, xs_u s.1.2.1 f 0, s.1.2.2), s.2.1, xs_of (xs_nO s.2.2.1 0 f md).2 (6 * p + d) (some (xs_nO s.2.2.1 0 f md).1), s.2.2.2))
          else (-8, (((xs_op s.1.1 2 f 0).1, s.1.2), s.2)))
        else if md / 16 = 1 then
          (if (xs_op s.1.1 3 f 0).2 = true then
            (nI d, (xs_len (xs_drop (xs_clear (xs_op s.1.1 3 f 0).1 f, s.1.2) f) f 0, s.2.1, xs_of (xs_nO s.2.2.1 0 f md).2 (6 * p + d) (some (xs_nO s.2.2.1 0 f md).1), s.2.2.2))
          else (-8, (((xs_op s.1.1 3 f 0).1, s.1.2), s.2)))
        else (nI d, (s.1, s.2.1, xs_of (xs_nO s.2.2.1 0 f md).2 (6 * p + d) (some (xs_nO s.2.2.1 0 f md).1), s.2.2.2)))
  | _, _, _ => (-1, s)
def xs_pipe (s : xs_S) (a : Int32) : Int32 × xs_S := match xs_alive s.2.2.2 a with
  | none => (-1, s)
  | some p => match xs_free s.2.2.1 p 0 with
    | none => (-2, s)
    | some d => match xs_free s.2.2.1 p (d + 1) with
      | none => (-2, s)
      | some e => if 14 < xs_ops s.2.2.1 then (-2, s)
        else match xs_least (fun q => !(xs_end s.2.2.1 q 1 || xs_end s.2.2.1 q 2)) 0 16 with
          | none => (-2, s)
          | some q =>
            let O1 : xs_O := (s.2.2.1.1, s.2.2.1.2.1, s.2.2.1.2.2.1, s.2.2.1.2.2.2.1, s.2.2.1.2.2.2.2.1, xs_u s.2.2.1.2.2.2.2.2 q [])
            let O2 : xs_O := xs_of (xs_nO O1 1 q 1).2 (6 * p + d) (some (xs_nO O1 1 q 1).1)
            let O3 : xs_O := xs_of (xs_nO O2 2 q 2).2 (6 * p + e) (some (xs_nO O2 2 q 2).1)
            (nI (d + 8 * e), (s.1, s.2.1, O3, s.2.2.2))
def xs_pos (O : xs_O) (o v : Nat) : xs_O := (O.1, O.2.1, O.2.2.1, O.2.2.2.1, xs_u O.2.2.2.2.1 o v, O.2.2.2.2.2)
def xs_pip (O : xs_O) (q : Nat) (l : List Int32) : xs_O := (O.1, O.2.1, O.2.2.1, O.2.2.2.1, O.2.2.2.2.1, xs_u O.2.2.2.2.2 q l)
def xs_read (s : xs_S) (a b : Int32) : Int32 × xs_S := match xs_desc s a b with
  | .inl e => (e, s)
  | .inr (_, _, o) =>
    if s.2.2.1.2.2.2.1 o % 2 = 0 then (-3, s)
    else if s.2.2.1.2.1 o = 1 then (match s.2.2.1.2.2.2.2.2 (s.2.2.1.2.2.1 o) with
      | [] => (if xs_end s.2.2.1 (s.2.2.1.2.2.1 o) 2 = true then -6 else -7, s)
      | x :: l => (x, (s.1, s.2.1, xs_pip s.2.2.1 (s.2.2.1.2.2.1 o) l, s.2.2.2)))
    else if s.1.2.1 (s.2.2.1.2.2.1 o) ≤ s.2.2.1.2.2.2.2.1 o then (-7, s)
    else if (xs_get s.1 (s.2.2.1.2.2.1 o) (s.2.2.1.2.2.2.2.1 o / 8)).2 = true then
      ((match (xs_get s.1 (s.2.2.1.2.2.1 o) (s.2.2.1.2.2.2.2.1 o / 8)).1.2.2 with
        | [] => 0
        | x :: _ => x.2.2.2 (s.2.2.1.2.2.2.2.1 o % 8)), ((xs_get s.1 (s.2.2.1.2.2.1 o) (s.2.2.1.2.2.2.2.1 o / 8)).1, s.2.1, xs_pos s.2.2.1 o (s.2.2.1.2.2.2.2.1 o + 1), s.2.2.2))
    else (-8, ((xs_get s.1 (s.2.2.1.2.2.1 o) (s.2.2.1.2.2.2.2.1 o / 8)).1, s.2))
/-- the last used block has a cell, and is dirty -/
def xs_cell (F : xs_F) (k : Nat) (v : Int32) : xs_F := (F.1, F.2.1, match F.2.2 with
  | [] => []
  | x :: l => (x.1, x.2.1, true, xs_u x.2.2.2 k v) :: l)
def xs_write (s : xs_S) (a b c : Int32) : Int32 × xs_S := match xs_nat c 256 with
  | none => (-1, s)
  | some v => match xs_desc s a b with
    | .inl e => (e, s)
    | .inr (_, _, o) =>
      if s.2.2.1.2.2.2.1 o / 2 % 2 = 0 then (-3, s)
      else if s.2.2.1.2.1 o = 2 then
        (if xs_end s.2.2.1 (s.2.2.1.2.2.1 o) 1 = false then (-7, s)
        else if (s.2.2.1.2.2.2.2.2 (s.2.2.1.2.2.1 o)).length = 4 then (-6, s)
        else (1, (s.1, s.2.1, xs_pip s.2.2.1 (s.2.2.1.2.2.1 o) (s.2.2.1.2.2.2.2.2 (s.2.2.1.2.2.1 o) ++ [nI v]), s.2.2.2)))
      else
        let f := s.2.2.1.2.2.1 o
        let at_ := if s.2.2.1.2.2.2.1 o / 4 % 2 = 1 then s.1.2.1 f else s.2.2.1.2.2.2.2.1 o
        if at_ = 32 then (-2, s)
        else if (xs_get s.1 f (at_ / 8)).2 = true then
          (1, (xs_len (xs_cell (xs_get s.1 f (at_ / 8)).1 (at_ % 8) (nI v)) f (max (s.1.2.1 f) (at_ + 1)), s.2.1, xs_pos s.2.2.1 o (at_ + 1), s.2.2.2))
        else (-8, ((xs_get s.1 f (at_ / 8)).1, s.2))
def xs_seek (s : xs_S) (a b c : Int32) : Int32 × xs_S := match xs_nat c 33 with
  | none => (-1, s)
  | some v => match xs_desc s a b with
    | .inl e => (e, s)
    | .inr (_, _, o) => if s.2.2.1.2.1 o ≠ 0 then (-3, s)
      else if s.1.2.1 (s.2.2.1.2.2.1 o) < v then (-1, s)
      else (nI v, (s.1, s.2.1, xs_pos s.2.2.1 o v, s.2.2.2))
def xs_sync (s : xs_S) (a b : Int32) : Int32 × xs_S := match xs_desc s a b with
  | .inl e => (e, s)
  | .inr (_, _, o) => if s.2.2.1.2.1 o ≠ 0 then (-3, s)
    else ((xs_sy (s.2.2.1.2.2.1 o) 4 0 s.1).1, ((xs_sy (s.2.2.1.2.2.1 o) 4 0 s.1).2, s.2))
def xs_dup (s : xs_S) (a b : Int32) : Int32 × xs_S := match xs_desc s a b with
  | .inl e => (e, s)
  | .inr (p, _, o) => match xs_free s.2.2.1 p 0 with
    | none => (-2, s)
    | some d => (nI d, (s.1, s.2.1, xs_of s.2.2.1 (6 * p + d) (some o), s.2.2.2))
def xs_close (s : xs_S) (a b : Int32) : Int32 × xs_S := match xs_desc s a b with
  | .inl e => (e, s)
  | .inr (p, d, _) => (0, (s.1, s.2.1, xs_of s.2.2.1 (6 * p + d) none, s.2.2.2))
def xs_unlink (s : xs_S) (a b : Int32) : Int32 × xs_S := match xs_alive s.2.2.2 a, xs_nat b 8 with
  | some _, some f => if s.2.1 f = 0 ∨ s.1.1.1 f = false then (-4, s)
    else if s.2.1 f = 1 then (-5, s)
    else if xs_openF s.2.2.1 f = true then (-9, s)
    else if (xs_op s.1.1 4 f 0).2 = true then (0, (xs_drop (xs_there (xs_op s.1.1 4 f 0).1 f false, s.1.2) f, s.2))
    else (-8, (((xs_op s.1.1 4 f 0).1, s.1.2), s.2))
  | _, _ => (-1, s)
/-- descriptors of a process from another's -/
def xs_share (O : xs_O) (p q : Nat) : xs_O := (fun k => if 6 * p ≤ k ∧ k < 6 * p + 6 then O.1 (6 * q + (k - 6 * p)) else O.1 k, O.2)
def xs_fork (s : xs_S) (a : Int32) : Int32 × xs_S := match xs_alive s.2.2.2 a with
  | none => (-1, s)
  | some p => match xs_least (fun q => decide (s.2.2.2.1 q = 0)) 1 6 with
    | none => (-2, s)
    | some q => (nI q, (s.1, s.2.1, xs_share s.2.2.1 q p, xs_u s.2.2.2.1 q 1, xs_u s.2.2.2.2.1 q p, s.2.2.2.2.2))
def xs_bare (O : xs_O) (p : Nat) : xs_O := (fun k => if 6 * p ≤ k ∧ k < 6 * p + 6 then none else O.1 k, O.2)
def xs_exit (s : xs_S) (a b : Int32) : Int32 × xs_S := match xs_alive s.2.2.2 a, xs_nat b 100 with
  | some p, some c => if p = 1 then (-1, s)
    else (0, (s.1, s.2.1, xs_bare s.2.2.1 p, xs_u s.2.2.2.1 p 2, (fun q => if 2 ≤ q ∧ s.2.2.2.1 q ≠ 0 ∧ s.2.2.2.2.1 q = p then 1 else s.2.2.2.2.1 q), xs_u s.2.2.2.2.2 p c))
  | _, _ => (-1, s)
def xs_wait (s : xs_S) (a : Int32) : Int32 × xs_S := match xs_alive s.2.2.2 a with
  | none => (-1, s)
  | some p => match xs_least (fun q => decide (s.2.2.2.1 q = 2 ∧ s.2.2.2.2.1 q = p)) 2 5 with
    | some q => (nI (q + 8 * s.2.2.2.2.2 q), (s.1, s.2.1, s.2.2.1, xs_u s.2.2.2.1 q 0, s.2.2.2.2))
    | none => match xs_least (fun q => decide (s.2.2.2.1 q ≠ 0 ∧ s.2.2.2.2.1 q = p)) 2 5 with
      | some _ => (-6, s)
      | none => (-9, s)
def xs_crash (s : xs_S) : Int32 × xs_S := (0, ((s.1.1, s.1.1.2.1, []), s.2.1, (fun _ => none, s.2.2.1.2), (fun q => if q = 1 then 1 else 0), s.2.2.2.2))
def xs_host (s : xs_S) (a b : Int32) : Int32 := match xs_nat a 8 with
  | none => -1
  | some f => if s.1.1.1 f = false then -4
    else match xs_nat b (s.1.1.2.1 f) with
      | none => -7
      | some i => s.1.1.2.2.1 f i
def xs_log (s : xs_S) (a : Int32) : Int32 := match xs_nat a (min s.1.1.2.2.2.2.1 16) with
  | none => -1
  | some i => s.1.1.2.2.2.1 i
def xs_cached (s : xs_S) (a : Int32) : Int32 := match xs_nat a s.1.2.2.length with
  | none => -1
  | some i => match s.1.2.2[i]? with
    | none => -1
    | some x => nI (x.1 + 8 * x.2.1 + (if x.2.2.1 = true then 32 else 0))
def xs_count (s : xs_S) (a : Int32) : Int32 := match xs_nat a 5 with
  | some 0 => nI s.1.1.2.2.2.2.1
  | some 1 => nI (xs_ops s.2.2.1)
  | some 2 => nI (xs_num (fun q => decide (1 ≤ q ∧ s.2.2.2.1 q ≠ 0)) 7)
  | some 3 => nI (s.1.2.2.countP (fun x => x.2.2.1))
  | some 4 => nI s.1.1.2.2.2.2.2
  | _ => -1
