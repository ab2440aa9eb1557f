/-! ===== a check of rows by ranges: what is known of numbers and cells at each place ===== -/
abbrev cw_W : Type := Int × Int × Nat
abbrev cw_A : Type := cw_W ⊕ (cw_W ⊕ Nat)
abbrev cw_U : Type := Nat × Nat
abbrev cw_P : Type := Option ((cw_U × Int) ⊕ ((cw_U × Int) ⊕ List (cw_U × cw_A)))
abbrev cw_E : Type := List (cw_U × cw_A × Option Int)
abbrev cw_Z : Type := List (cw_A × cw_P)
/-- kinds of cells: a row of ints (kind, length, period, ranges), of longs, of references (kind, length, of which), an object -/
abbrev cw_D : Type := (Nat × Nat × Nat × List (Int × Int)) ⊕ (Nat ⊕ ((Nat × Nat × Nat) ⊕ (Nat × List cw_A)))
abbrev cw_int (w : cw_W) : cw_A := .inl w
abbrev cw_lng (w : cw_W) : cw_A := .inr (.inl w)
abbrev cw_rf (d : Nat) : cw_A := .inr (.inr d)
def cw_le (a b : Int) : Bool := decide (a ≤ b)
def cw_mn (a b : Int) : Int := bif cw_le a b then a else b
def cw_mx (a b : Int) : Int := bif cw_le a b then b else a
def cw_top : cw_W := (-2147483648, 2147483647, 0)
def cw_topL : cw_W := (-9223372036854775808, 9223372036854775807, 0)
def cw_wr (lo hi : Int) (t : Nat) : cw_W := bif cw_le (-2147483648) lo && cw_le hi 2147483647 then (lo, hi, t) else cw_top
def cw_wrL (lo hi : Int) : cw_W := bif cw_le (-9223372036854775808) lo && cw_le hi 9223372036854775807 then (lo, hi, 0) else cw_topL
def cw_nz (w : cw_W) : Bool := cw_le 1 w.1 || (cw_le w.2.1 (-1) || w.2.2 == 1)
def cw_cst (w : cw_W) : Bool := decide (w.1 = w.2.1)
/-- of a number that is r modulo m: 16 + 64 m + r -/
def cw_md (t : Nat) : Nat := (t - 16) / 64
def cw_rs (t : Nat) : Nat := (t - 16) % 64
def cw_mok (t : Nat) : Bool := Nat.ble 16 t && (Nat.ble 1 (cw_md t) && Nat.ble (cw_md t) 63)
def cw_tadd (x y : cw_W) : Nat :=
  bif cw_cst y && (cw_le 0 y.1 && cw_mok x.2.2) then 16 + 64 * cw_md x.2.2 + (cw_rs x.2.2 + y.1.toNat) % cw_md x.2.2
  else bif cw_cst x && (cw_le 0 x.1 && cw_mok y.2.2) then 16 + 64 * cw_md y.2.2 + (cw_rs y.2.2 + x.1.toNat) % cw_md y.2.2 else 0
def cw_tmul (x y : cw_W) : Nat :=
  bif cw_cst y && (cw_le 2 y.1 && cw_le y.1 63) then 16 + 64 * y.1.toNat
  else bif cw_cst x && (cw_le 2 x.1 && cw_le x.1 63) then 16 + 64 * x.1.toNat else 0
def cw_bin (q : Instr) (x y : cw_W) : Option cw_W := match q with
  | .iadd => some (cw_wr (x.1 + y.1) (x.2.1 + y.2.1) (cw_tadd x y))
  | .isub => some (cw_wr (x.1 - y.2.1) (x.2.1 - y.1) 0)
  | .imul => some (bif cw_le 0 x.1 && cw_le 0 y.1 then cw_wr (x.1 * y.1) (x.2.1 * y.2.1) (cw_tmul x y) else cw_top)
  | .iand => some (bif cw_le 0 y.1 then (0, y.2.1, 0) else bif cw_le 0 x.1 then (0, x.2.1, 0) else cw_top)
  | .ior => some cw_top
  | .ishl => some cw_top
  | .ishr => some cw_top
  | .iushr => some cw_top
  | .idiv => bif cw_nz y then some (bif cw_le 1 y.1 && cw_le 0 x.1 then (0, x.2.1 / y.1, 0) else cw_top) else none
  | .irem => bif cw_le 1 y.1 && cw_le 0 x.1 then some (0, y.2.1 - 1, 0) else none
  | _ => none
def cw_binL (q : Instr) (x y : cw_W) : Option cw_W := match q with
  | .ladd => some cw_topL
  | .lsub => some cw_topL
  | .lmul => some (bif cw_le 0 x.1 && cw_le 0 y.1 then cw_wrL (x.1 * y.1) (x.2.1 * y.2.1) else cw_topL)
  | .land => some cw_topL
  | .ldiv => bif cw_nz y then some cw_topL else none
  | .lrem => bif cw_nz y then some cw_topL else none
  | _ => none
/-- a number moved by what is known: the same variable still -/
def cw_binP (q : Instr) (x : cw_W) (p : cw_P) (y : cw_W) : cw_P := match q, p with
  | .iadd, some (.inl (u, d)) => bif cw_cst y && (cw_le (-2147483648) (x.1 + y.1) && cw_le (x.2.1 + y.2.1) 2147483647) then some (.inl (u, d + y.1)) else none
  | .isub, some (.inl (u, d)) => bif cw_cst y && (cw_le (-2147483648) (x.1 - y.2.1) && cw_le (x.2.1 - y.1) 2147483647) then some (.inl (u, d - y.1)) else none
  | _, _ => none
def cw_push (q : cv_Q) : Option cw_A := match q.2.1 with
  | .iconst n => some (cw_int ((Int32.ofInt n).toInt, (Int32.ofInt n).toInt, 0))
  | .bipush n => some (cw_int ((Int8.ofInt n).toInt32.toInt, (Int8.ofInt n).toInt32.toInt, 0))
  | .sipush n => some (cw_int ((Int16.ofInt n).toInt32.toInt, (Int16.ofInt n).toInt32.toInt, 0))
  | .ldc _ => bif q.2.2.2.1 == 0 then some (cw_int ((Int32.ofInt q.2.2.2.2.2).toInt, (Int32.ofInt q.2.2.2.2.2).toInt, 0)) else none
  | .ldc_w _ => some (cw_int ((Int32.ofInt q.2.2.2.2.2).toInt, (Int32.ofInt q.2.2.2.2.2).toInt, 0))
  | .ldc2_w _ => some (cw_lng ((Int64.ofInt q.2.2.2.2.2).toInt, (Int64.ofInt q.2.2.2.2.2).toInt, 0))
  | .lconst k => some (cw_lng ((Int64.ofNat k.val).toInt, (Int64.ofNat k.val).toInt, 0))
  | .getstatic _ => match q.2.2.2.1 with
    | 4 => some (cw_rf 1004)
    | 5 => some (cw_rf 1005)
    | _ => none
  | _ => none
/-- what both are if the comparison holds; none: it can't hold -/
def cw_ok2 (x y : cw_W) : Option (cw_W × cw_W) := bif cw_le x.1 x.2.1 && cw_le y.1 y.2.1 then some (x, y) else none
def cw_lt (x y : cw_W) : Option (cw_W × cw_W) := cw_ok2 (x.1, cw_mn x.2.1 (y.2.1 - 1), bif y.2.2 == 3 && cw_le 0 x.1 then 2 else x.2.2) (cw_mx y.1 (x.1 + 1), y.2.1, y.2.2)
def cw_lq (x y : cw_W) : Option (cw_W × cw_W) := cw_ok2 (x.1, cw_mn x.2.1 y.2.1, x.2.2) (cw_mx y.1 x.1, y.2.1, y.2.2)
def cw_sw (r : Option (cw_W × cw_W)) : Option (cw_W × cw_W) := match r with
  | some (x, y) => some (y, x)
  | none => none
def cw_cond (c : Jvm.ClassFile.Cond) (x y : cw_W) : Option (cw_W × cw_W) := match c with
  | .lt => cw_lt x y
  | .le => cw_lq x y
  | .gt => cw_sw (cw_lt y x)
  | .ge => cw_sw (cw_lq y x)
  | .eq => cw_ok2 (cw_mx x.1 y.1, cw_mn x.2.1 y.2.1, x.2.2) (cw_mx x.1 y.1, cw_mn x.2.1 y.2.1, y.2.2)
  | .ne => bif cw_cst y then cw_ok2 ((bif decide (x.1 = y.1) then x.1 + 1 else x.1), (bif decide (x.2.1 = y.1) then x.2.1 - 1 else x.2.1), (bif x.2.2 == 0 && decide (y.1 = 0) then 1 else x.2.2)) y else some (x, y)
def cw_neg (c : Jvm.ClassFile.Cond) : Jvm.ClassFile.Cond := match c with
  | .lt => .ge
  | .le => .gt
  | .gt => .le
  | .ge => .lt
  | .eq => .ne
  | .ne => .eq
def cw_ueq (a b : cw_U) : Bool := a.1 == b.1 && a.2 == b.2
def cw_get (e : cw_E) (u : cw_U) : Option (cw_A × Option Int) := (e.find? (fun q => cw_ueq q.1 u)).map Prod.snd
def cw_meet (a b : cw_A) : cw_A := match a, b with
  | .inl x, .inl y => .inl (cw_mx x.1 y.1, cw_mn x.2.1 y.2.1, bif y.2.2 == 0 then x.2.2 else y.2.2)
  | .inr (.inl x), .inr (.inl y) => .inr (.inl (cw_mx x.1 y.1, cw_mn x.2.1 y.2.1, bif y.2.2 == 0 then x.2.2 else y.2.2))
  | a, _ => a
/-- more is known of a variable -/
def cw_put (e : cw_E) (u : cw_U) (a : cw_A) : cw_E := match cw_get e u with
  | some (a0, o) => (u, cw_meet a0 a, o) :: e.filter (fun q => !cw_ueq q.1 u)
  | none => (u, a, none) :: e
def cw_puts (e : cw_E) (l : List (cw_U × cw_A)) : cw_E := l.foldl (fun e q => cw_put e q.1 q.2) e
def cw_rfn (e : cw_E) (p : cw_P) (w : cw_W) : cw_E := match p with
  | some (.inl (u, d)) => cw_put e u (cw_int (w.1 - d, w.2.1 - d, bif decide (d = 0) then w.2.2 else 0))
  | some (.inr (.inr l)) => bif cw_nz w then cw_puts e l else e
  | _ => e
def cw_isL : cw_A → Bool
  | .inr (.inl _) => true
  | _ => false
def cw_pm (f : cw_U → Bool) (p : cw_P) : Bool := match p with
  | none => false
  | some (.inl (u, _)) => f u
  | some (.inr (.inl (u, _))) => f u
  | some (.inr (.inr l)) => l.any (fun q => f q.1)
def cw_clr (f : cw_U → Bool) (z : cw_Z) : cw_Z := z.map (fun q => (q.1, bif cw_pm f q.2 then none else q.2))
def cw_st (e : cw_E) (i : Nat) (a : cw_A) (o : Option Int) : cw_E := ((i, 0), a, o) :: e.filter (fun q => !(q.1.1 == i) && !(q.1.1 + 1 == i && cw_isL q.2.1))
def cw_stL (e : cw_E) (i : Nat) (a : cw_A) : cw_E := ((i, 0), a, none) :: e.filter (fun q => !(q.1.1 == i) && (!(q.1.1 == i + 1) && !(q.1.1 + 1 == i && cw_isL q.2.1)))
/-- the start's number of a variable moved on -/
def cw_org (e : cw_E) (u : cw_U) (p : cw_P) : Option Int := match p with
  | some (.inl (v, d)) => bif cw_ueq v u then (match cw_get e u with
    | some (_, some o) => some (o + d)
    | _ => none) else none
  | _ => none
def cw_kd (k : Nat) (a : cw_A) : Bool := match k, a with
  | 1, .inl _ => true
  | 2, .inr (.inr _) => true
  | 3, .inr (.inl _) => true
  | _, _ => false
def cw_dok : cw_A → Bool
  | .inr (.inr d) => Nat.ble d 999
  | _ => true
/-- slots that may be written: place 80 d + s -/
def cw_bit (m : Nat) (d s : Nat) : Bool := Nat.testBit m (80 * d + s)
def cw_in (w : cw_W) (r : Int × Int) : Bool := cw_le r.1 w.1 && cw_le w.2.1 r.2
/-- the ranges of a row that an index may meet, and the slot's number -/
def cw_sel (p : Nat) (rs : List (Int × Int)) (w : cw_W) : List (Int × Int) × Nat :=
  bif Nat.ble 16 w.2.2 && (cw_md w.2.2 == p && Nat.ble 2 p) then (match rs[cw_rs w.2.2]? with
    | some r => ([r], 1 + cw_rs w.2.2)
    | none => (rs, 0)) else (rs, 0)
def cw_hull : List (Int × Int) → Int × Int
  | [] => (0, 0)
  | [r] => r
  | r :: l => (cw_mn r.1 (cw_hull l).1, cw_mx r.2 (cw_hull l).2)
def cw_ix (w : cw_W) (n : Nat) : Bool := cw_le 0 w.1 && cw_le (w.2.1 + 1) n
def cw_sub (a b : cw_A) : Bool := match a, b with
  | .inl x, .inl y => cw_le y.1 x.1 && (cw_le x.2.1 y.2.1 && (y.2.2 == 0 || (y.2.2 == x.2.2 || (y.2.2 == 1 && cw_nz x))))
  | .inr (.inl x), .inr (.inl y) => cw_le y.1 x.1 && (cw_le x.2.1 y.2.1 && (y.2.2 == 0 || (y.2.2 == x.2.2 || (y.2.2 == 1 && cw_nz x))))
  | .inr (.inr d), .inr (.inr d') => d == d'
  | _, _ => false
abbrev cw_R : Type := List (Option Nat × cw_E × cw_Z)
/-- a method's slots: what it may write; what no row but a named one may write -/
def cw_may (wm dp : Nat) (d s : Nat) : Bool := cw_bit wm d s && !cw_bit dp d s
/-- the variable that a field of what a variable holds is: two fields at most -/
def cw_upath (p : cw_P) (f : Nat) : Option cw_U := match p with
  | some (.inl ((i, c), d)) => bif decide (d = 0) && Nat.ble f 99 then (bif c == 0 then some (i, f) else bif Nat.ble c 99 then some (i, c + 100 * f) else none) else none
  | _ => none
def cw_uref (p : cw_P) : Option Nat := match p with
  | some (.inl ((i, 0), d)) => bif decide (d = 0) then some i else none
  | _ => none
def cw_has (c f : Nat) : Bool := c % 100 == f || c / 100 == f
/-- what stands in a switch: all its places -/
def cw_swt (pc : Nat) (offs : List Int) (e : cw_E) (z : cw_Z) : Option cw_R := match offs with
  | [] => some []
  | o :: l => bif cv_jmp pc o then (match cw_swt pc l e z with
    | some r => some ((some (cv_tgt pc o), e, z) :: r)
    | none => none) else none
/-- a comparison: where it goes on -/
def cw_br (pc : Nat) (off : Int) (t f : Option cw_E) (z : cw_Z) : Option cw_R :=
  bif cv_jmp pc off then some ((match t with
    | some e => [(some (cv_tgt pc off), e, z)]
    | none => []) ++ (match f with
    | some e => [(none, e, z)]
    | none => [])) else none
def cw_rf2 (e : cw_E) (c : Jvm.ClassFile.Cond) (x : cw_W) (p : cw_P) (y : cw_W) (p' : cw_P) : Option cw_E := match cw_cond c x y with
  | some (x', y') => some (cw_rfn (cw_rfn e p x') p' y')
  | none => none
/-- against 0: also what lcmp told -/
def cw_rf1 (e : cw_E) (c : Jvm.ClassFile.Cond) (x : cw_W) (p : cw_P) : Option cw_E := match p with
  | some (.inr (.inl (u, n))) => (match cw_get e u with
    | some (.inr (.inl w), _) => (match cw_cond c w (n, n, 0) with
      | some (w', _) => some (cw_put e u (cw_lng w'))
      | none => none)
    | _ => some e)
  | _ => match cw_cond c x (0, 0, 0) with
    | some (x', _) => some (cw_rfn e p x')
    | none => none
def cw_one (Ds : List cw_D) (wm dp : Nat) (q : cv_Q) (e : cw_E) (z : cw_Z) : Option cw_R :=
  match cw_push q with
  | some a => some [(none, e, (a, none) :: z)]
  | none =>
  match cv_load q.2.1 with
  | some (i, k) => match cw_get e (i, 0) with
    | some (a, _) => bif cw_kd k a then some [(none, e, (a, some (.inl ((i, 0), 0))) :: z)] else none
    | none => none
  | none =>
  match cv_store q.2.1 with
  | some (i, k) => match z with
    | (a, p) :: z => bif cw_kd k a && cw_dok a then
        (bif k == 3 then some [(none, cw_stL e i a, cw_clr (fun u => u.1 == i || (u.1 == i + 1 || u.1 + 1 == i)) z)]
          else some [(none, cw_st e i a (cw_org e (i, 0) p), cw_clr (fun u => u.1 == i || u.1 + 1 == i) z)]) else none
    | _ => none
  | none =>
  match q.2.1, z with
  | .iinc i n, z => match cw_get e (i, 0) with
    | some (.inl w, o) => let d := (Int32.ofInt n).toInt
      bif cw_le (-2147483648) (w.1 + d) && cw_le (w.2.1 + d) 2147483647 then
        some [(none, cw_st e i (cw_int (w.1 + d, w.2.1 + d, 0)) (o.map (· + d)), cw_clr (fun u => u.1 == i || u.1 + 1 == i) z)]
      else some [(none, cw_st e i (cw_int cw_top) none, cw_clr (fun u => u.1 == i || u.1 + 1 == i) z)]
    | _ => none
  | .goto off, z => bif cv_jmp q.1 off then some [(some (cv_tgt q.1 off), e, z)] else none
  | .iaload, (.inl w, _) :: (.inr (.inr d), _) :: z => bif d == 1004 || d == 1005 then (bif cw_ix w 9 then some [(none, e, (cw_int cw_top, none) :: z)] else none) else (match Ds[d]? with
    | some (.inl (0, n, p, rs)) => bif cw_ix w n then (let r := cw_hull (cw_sel p rs w).1; some [(none, e, (cw_int (r.1, r.2, 0), none) :: z)]) else none
    | _ => none)
  | .baload, (.inl w, _) :: (.inr (.inr d), _) :: z => match Ds[d]? with
    | some (.inl (t, n, p, rs)) => bif (t == 1 || t == 2) && cw_ix w n then (let r := cw_hull (cw_sel p rs w).1; some [(none, e, (cw_int (r.1, r.2, 0), none) :: z)]) else none
    | _ => none
  | .laload, (.inl w, _) :: (.inr (.inr d), _) :: z => match Ds[d]? with
    | some (.inr (.inl n)) => bif cw_ix w n then some [(none, e, (cw_lng cw_topL, none) :: z)] else none
    | _ => none
  | .aaload, (.inl w, _) :: (.inr (.inr d), _) :: z => match Ds[d]? with
    | some (.inr (.inr (.inl (_, n, d')))) => bif cw_ix w n && Nat.ble d' 999 then some [(none, e, (cw_rf d', none) :: z)] else none
    | _ => none
  | .iastore, (.inl x, _) :: (.inl w, _) :: (.inr (.inr d), _) :: z => match Ds[d]? with
    | some (.inl (0, n, p, rs)) => bif cw_ix w n && (cw_may wm dp d (cw_sel p rs w).2 && (cw_sel p rs w).1.all (fun r => cw_in x r)) then some [(none, e, z)] else none
    | _ => none
  | .bastore, (.inl x, _) :: (.inl w, _) :: (.inr (.inr d), _) :: z => match Ds[d]? with
    | some (.inl (1, n, 1, [r])) => bif cw_ix w n && (cw_may wm dp d 0 && cw_in (-128, 127, 0) r) then some [(none, e, z)] else none
    | some (.inl (2, n, 1, [r])) => bif cw_ix w n && (cw_may wm dp d 0 && cw_in (0, 1, 0) r) then some [(none, e, z)] else none
    | _ => none
  | .lastore, (.inr (.inl _), _) :: (.inl w, _) :: (.inr (.inr d), _) :: z => match Ds[d]? with
    | some (.inr (.inl n)) => bif cw_ix w n && cw_may wm dp d 0 then some [(none, e, z)] else none
    | _ => none
  | .aastore, (.inr (.inr d2), _) :: (.inl w, _) :: (.inr (.inr d), _) :: z => match Ds[d]?, Ds[d2]? with
    | some (.inr (.inr (.inl (t, n, d')))), some (.inr (.inr (.inr (ci, _)))) => bif cw_ix w n && (cw_may wm dp d 0 && (d2 == d' && (Nat.ble d' 999 && ci == (bif t == 4 then 1 else 7)))) then some [(none, e, z)] else none
    | _, _ => none
  | .getfield _, (.inr (.inr d), p) :: z => match Ds[d]? with
    | some (.inr (.inr (.inr (ci, fs)))) => bif ci == q.2.2.2.1 then (match fs[q.2.2.2.2.1]? with
        | some a => (match cw_upath p (q.2.2.2.2.1 + 1) with
          | some u => (match cw_get e u with
            | some (a', _) => some [(none, e, (a', some (.inl (u, 0))) :: z)]
            | none => some [(none, e, (a, some (.inl (u, 0))) :: z)])
          | none => some [(none, e, (a, none) :: z)])
        | none => none) else none
    | _ => none
  | .putfield _, (a, pv) :: (.inr (.inr d), p) :: z => match Ds[d]? with
    | some (.inr (.inr (.inr (ci, fs)))) => bif ci == q.2.2.2.1 && (cw_may wm dp d q.2.2.2.2.1 && Nat.ble q.2.2.2.2.1 98) then (match fs[q.2.2.2.2.1]? with
        | some b => bif cw_sub a b && (match q.2.2.2.2.2.toNat, b with
            | 0, .inl _ => true
            | 2, .inl w => cw_le 0 w.1 && cw_le w.2.1 1
            | 4, .inr (.inr d') => Nat.ble d' 999
            | _, _ => false) then
            (let f := q.2.2.2.2.1 + 1
             let e' := e.filter (fun q => !cw_has q.1.2 f)
             some [(none, (match cw_uref p with
              | some i => ((i, f), a, cw_org e (i, f) pv) :: e'
              | none => e'), cw_clr (fun u => cw_has u.2 f) z)]) else none
        | none => none) else none
    | _ => none
  | .if_icmp o off, (.inl y, p') :: (.inl x, p) :: z => cw_br q.1 off (cw_rf2 e o x p y p') (cw_rf2 e (cw_neg o) x p y p') z
  | .ifCond o off, (.inl x, p) :: z => cw_br q.1 off (cw_rf1 e o x p) (cw_rf1 e (cw_neg o) x p) z
  | .dup, a :: z => bif !cw_isL a.1 then some [(none, e, a :: a :: z)] else none
  | .pop, a :: z => bif !cw_isL a.1 then some [(none, e, z)] else none
  | .dup2, a :: b :: z => bif !cw_isL a.1 && !cw_isL b.1 then some [(none, e, a :: b :: a :: b :: z)] else none
  | .arraylength, (.inr (.inr d), _) :: z => match Ds[d]? with
    | some (.inl (_, n, _, _)) => bif Nat.ble n 10000 then some [(none, e, (cw_int (n, n, 0), none) :: z)] else none
    | some (.inr (.inr (.inl (_, n, _)))) => bif Nat.ble n 10000 then some [(none, e, (cw_int (n, n, 0), none) :: z)] else none
    | _ => none
  | .i2b, (.inl _, _) :: z => some [(none, e, (cw_int (-128, 127, 0), none) :: z)]
  | .i2l, (.inl w, _) :: z => some [(none, e, (cw_lng (w.1, w.2.1, bif cw_nz w then 1 else 0), none) :: z)]
  | .l2i, (.inr (.inl _), _) :: z => some [(none, e, (cw_int cw_top, none) :: z)]
  | .ineg, (.inl w, _) :: z => some [(none, e, (cw_int (cw_wr (-w.2.1) (-w.1) 0), none) :: z)]
  | .lneg, (.inr (.inl w), _) :: z => some [(none, e, (cw_lng (cw_topL.1, cw_topL.2.1, bif cw_nz w then 1 else 0), none) :: z)]
  | .lcmp, (.inr (.inl y), _) :: (.inr (.inl _), p) :: z => some [(none, e, (cw_int (-1, 1, 0), (bif cw_cst y then (match p with
      | some (.inl (u, d)) => bif decide (d = 0) then some (.inr (.inl (u, y.1))) else none
      | _ => none) else none)) :: z)]
  | .lshr, (.inl _, _) :: (.inr (.inl _), _) :: z => some [(none, e, (cw_lng cw_topL, none) :: z)]
  | .tableswitch d lo hi offs, (.inl _, _) :: z => bif decide (hi - lo < offs.size) then cw_swt q.1 (d :: offs.toList) e z else none
  | i, (.inl y, _) :: (.inl x, p) :: z => match cw_bin i x y with
    | some w => some [(none, e, (cw_int w, cw_binP i x p y) :: z)]
    | none => none
  | i, (.inr (.inl y), _) :: (.inr (.inl x), _) :: z => match cw_binL i x y with
    | some w => some [(none, e, (cw_lng w, none) :: z)]
    | none => none
  | _, _ => none
/-- Math's -/
def cw_wid (z : cw_Z) : Nat := (z.map fun v => bif cw_isL v.1 then 2 else 1).sum
def cw_nat (M : cv_M) (q : cv_Q) (e : cw_E) (z : cw_Z) : Option cw_R :=
  bif Nat.ble 1 M.2.2.2.2.1 then
    match q.2.1, q.2.2.2.1, z with
    | .invokestatic _, 9001, (.inl y, _) :: (.inl x, _) :: z => bif Nat.ble (cw_wid z + 15) M.2.2.2.2.2 then some [(none, e, (cw_int (cw_mx x.1 y.1, cw_mx x.2.1 y.2.1, 0), none) :: z)] else none
    | .invokestatic _, 9002, (.inl y, _) :: (.inl x, _) :: z => bif Nat.ble (cw_wid z + 15) M.2.2.2.2.2 then some [(none, e, (cw_int (cw_mn x.1 y.1, cw_mn x.2.1 y.2.1, 0), none) :: z)] else none
    | .invokestatic _, 9003, (.inl _, _) :: z => bif Nat.ble (cw_wid z + 15) M.2.2.2.2.2 then some [(none, e, (cw_int cw_top, none) :: z)] else none
    | .invokestatic _, 9004, (.inr (.inl _), _) :: (.inr (.inl _), _) :: z => bif Nat.ble (cw_wid z + 15) M.2.2.2.2.2 then some [(none, e, (cw_lng cw_topL, none) :: z)] else none
    | .invokestatic _, 9005, (.inr (.inl _), _) :: (.inr (.inl _), _) :: z => bif Nat.ble (cw_wid z + 15) M.2.2.2.2.2 then some [(none, e, (cw_lng cw_topL, none) :: z)] else none
    | .invokestatic _, 9006, (.inr (.inl w), _) :: z => bif Nat.ble (cw_wid z + 15) M.2.2.2.2.2 then some [(none, e, (cw_lng (cw_topL.1, cw_topL.2.1, bif cw_nz w then 1 else 0), none) :: z)] else none
    | _, _, _ => none
  else none
/-- a contract: the method, its room (locals, frames, slots), what it takes, what it gives, what a true answer tells of a parameter alone, and of one between two others, what it writes -/
abbrev cw_K : Type := (Nat × Nat × Nat × Nat) × List cw_A × Option cw_A × List (Nat × cw_A) × List (Nat × Nat × Nat) × Nat × List (Nat × cw_A)
def cw_subs : List cw_A → List cw_A → Bool
  | [], [] => true
  | a :: l, b :: m => cw_sub a b && cw_subs l m
  | _, _ => false
/-- what the contract takes of the fields of its first parameter -/
def cw_fps (e : cw_E) (zs : cw_Z) (fp : List (Nat × cw_A)) : Bool := match fp with
  | [] => true
  | fp => (match zs with
    | (_, p) :: _ => (match cw_uref p with
      | some i => fp.all (fun t => Nat.ble t.1 98 && (match cw_get e (i, t.1 + 1) with
        | some (a, _) => cw_sub a t.2
        | none => false))
      | none => false)
    | [] => false)
def cw_find (Ks : List cw_K) (j : Nat) (e : cw_E) (zs : cw_Z) : Option cw_K := Ks.find? (fun K => K.1.1 == j && (cw_subs (zs.map Prod.fst) K.2.1 && cw_fps e zs K.2.2.2.2.2.2))
def cw_var0 (zs : cw_Z) (p : Nat) : Option cw_U := match zs[p]? with
  | some (_, some (.inl (u, d))) => bif decide (d = 0) then some u else none
  | _ => none
def cw_w0 (zs : cw_Z) (p : Nat) : Option cw_W := match zs[p]? with
  | some (.inl w, _) => some w
  | _ => none
def cw_tells (K : cw_K) (zs : cw_Z) : List (cw_U × cw_A) :=
  (K.2.2.2.1.filterMap fun t => match cw_var0 zs t.1 with
    | some u => bif u.2 == 0 || K.2.2.2.2.2.1 == 0 then some (u, t.2) else none
    | none => none) ++
  (K.2.2.2.2.1.filterMap fun t => match cw_var0 zs t.1, cw_w0 zs t.2.1, cw_w0 zs t.2.2 with
    | some u, some a, some b => bif u.2 == 0 || K.2.2.2.2.2.1 == 0 then some (u, cw_int (a.1, b.2.1, 0)) else none
    | _, _, _ => none)
def cw_keep (Ds : List cw_D) (K : cw_K) (e : cw_E) : cw_E := e.filter fun q => q.1.2 == 0 || (match cw_get e (q.1.1, 0) with
  | some (.inr (.inr d), _) => Nat.ble d 999 && (!cw_bit K.2.2.2.2.2.1 d (q.1.2 % 100 - 1) && (Nat.ble q.1.2 99 || (match Ds[d]? with
    | some (.inr (.inr (.inr (_, fs)))) => (match fs[q.1.2 % 100 - 1]? with
      | some (.inr (.inr d')) => Nat.ble d' 999 && !cw_bit K.2.2.2.2.2.1 d' (q.1.2 / 100 - 1)
      | _ => false)
    | _ => false)))
  | _ => false)
def cw_go (Ds : List cw_D) (M : cv_M) (wm : Nat) (K : cw_K) (zs : cw_Z) (e : cw_E) (z : cw_Z) : Option cw_R :=
  bif (Nat.ble (cw_wid zs) K.1.2.1 && (Nat.ble (K.1.2.2.1 + 1) M.2.2.2.2.1 && (Nat.ble (8 + (K.1.2.1 + 11) + K.1.2.2.2) M.2.2.2.2.2 && Nat.ble (cw_wid z) 8))) && Nat.land K.2.2.2.2.2.1 wm == K.2.2.2.2.2.1 then
    some [(none, cw_keep Ds K e, (match K.2.2.1 with
      | some a => [(a, (match cw_tells K zs with
        | [] => none
        | l => some (.inr (.inr l))))]
      | none => []) ++ cw_clr (fun u => !(u.2 == 0)) z)] else none
def cw_call (Ds : List cw_D) (Ks : List cw_K) (M : cv_M) (wm : Nat) (q : cv_Q) (e : cw_E) (z : cw_Z) : Option cw_R :=
  let np := q.2.2.2.2.1
  bif Nat.ble np z.length && Nat.ble q.2.2.2.1 8999 then
    match q.2.1 with
    | .invokestatic _ => (match cw_find Ks q.2.2.2.1 e (z.take np).reverse with
      | some K => cw_go Ds M wm K (z.take np).reverse e (z.drop np)
      | none => none)
    | .invokevirtual _ => (match z.drop np with
      | (.inr (.inr d), p) :: z' => (match Ds[d]? with
        | some (.inr (.inr (.inr (ci, _)))) => bif ci == q.2.2.2.2.2.toNat && Nat.ble d 999 then (match cw_find Ks q.2.2.2.1 e ((.inr (.inr d), p) :: (z.take np).reverse) with
          | some K => cw_go Ds M wm K ((.inr (.inr d), p) :: (z.take np).reverse) e z'
          | none => none) else none
        | _ => none)
      | _ => none)
    | _ => none
  else none
/-- a true answer tells what the contract says -/
def cw_thn (e : cw_E) (w : cw_W) (p : cw_P) (t : Nat × cw_A) : Bool := match cw_get e (t.1, 0) with
  | some (a, o) => (match o with
    | some d => decide (d = 0)
    | none => false) && (cw_sub a t.2 || (match p with
      | some (.inr (.inr l)) => l.any (fun q => cw_ueq q.1 (t.1, 0) && cw_sub q.2 t.2)
      | _ => false))
  | none => false
def cw_ret (M : cv_M) (K : cw_K) (q : cv_Q) (e : cw_E) (z : cw_Z) : Bool := match q.2.1, z, M.1.2.2.2.2, K.2.2.1 with
  | .ireturn, [(.inl w, p)], some .int, some b => cw_sub (.inl w) b && K.2.2.2.1.isEmpty
  | .ireturn, [(.inl w, p)], some .boolean, some b => cw_sub (.inl w) b && (cw_le 0 w.1 && (cw_le w.2.1 1 && (cw_le w.2.1 0 || K.2.2.2.1.all (cw_thn e w p))))
  | .lreturn, [(.inr (.inl w), _)], some .long, some b => cw_sub (.inr (.inl w)) b && K.2.2.2.1.isEmpty
  | .return_, [], none, none => K.2.2.2.1.isEmpty
  | _, _, _, _ => false
/-- places where runs meet: what is known there, and how far it still is -/
abbrev cw_G : Type := Nat × List (cw_U × cw_A) × List (Nat × cw_U × Nat)
def cw_dec (e : cw_E) : List (Nat × cw_U × Nat) → List (Nat × cw_U × Nat) → Bool
  | (0, _, a) :: l, (0, _, b) :: m => (Nat.ble (b + 1) a && Nat.ble a 1000) || (a == b && cw_dec e l m)
  | (1, u, _) :: l, (1, v, _) :: m => cw_ueq u v && (match cw_get e u with
    | some (.inl _, some d) => cw_le 1 d || (decide (d = 0) && cw_dec e l m)
    | _ => false)
  | (2, u, _) :: l, (2, v, _) :: m => cw_ueq u v && (match cw_get e u with
    | some (.inl _, some d) => cw_le d (-1) || (decide (d = 0) && cw_dec e l m)
    | _ => false)
  | _, _ => false
def cw_incl (Ds : List cw_D) (e : cw_E) (c : List (cw_U × cw_A)) : Bool := c.all (fun t => match cw_get e t.1 with
  | some (a, _) => cw_sub a t.2
  | none => Nat.ble 1 t.1.2 && (Nat.ble t.1.2 99 && (match cw_get e (t.1.1, 0) with
    | some (.inr (.inr d), _) => Nat.ble d 999 && (match Ds[d]? with
      | some (.inr (.inr (.inr (_, fs)))) => (match fs[t.1.2 - 1]? with
        | some a => cw_sub a t.2
        | none => false)
      | _ => false)
    | _ => false)))
def cw_hd (l : List cv_Q) (pc : Nat) : Bool := match l with
  | q' :: _ => q'.1 == pc
  | [] => false
def cw_rkd (rk : Option (List (Nat × cw_U × Nat))) (e : cw_E) (m : List (Nat × cw_U × Nat)) : Bool := match rk with
  | some r => cw_dec e r m
  | none => true
def cw_go1 (ev : List cv_Q → cw_E → cw_Z → Bool) (full l : List cv_Q) (pc : Nat) (s : Option Nat × cw_E × cw_Z) : Bool := match s.1 with
  | none => cw_hd l pc && ev l s.2.1 s.2.2
  | some t => ev (full.dropWhile (fun q => !(q.1 == t))) s.2.1 s.2.2
noncomputable def cw_ev (Ds : List cw_D) (Ks : List cw_K) (M : cv_M) (K : cw_K) (dp : Nat) (cs : List cw_G) (rk : Option (List (Nat × cw_U × Nat))) (fuel : Nat) : Bool → List cv_Q → cw_E → cw_Z → Bool :=
  Nat.rec (motive := fun _ => Bool → List cv_Q → cw_E → cw_Z → Bool) (fun _ _ _ _ => false) (fun _ ih b l e z =>
    match l with
    | [] => false
    | q :: l' =>
      match (bif b then none else cs.find? (fun c => c.1 == q.1)) with
      | some c => z.isEmpty && (cw_incl Ds e c.2.1 && cw_rkd rk e c.2.2)
      | none =>
        let go (r : cw_R) : Bool := r.all (cw_go1 (ih false) M.2.1 l' (q.1 + q.2.2.1))
        match cw_one Ds K.2.2.2.2.2.1 dp q e z with
        | some r => go r
        | none =>
        match cw_nat M q e z with
        | some r => go r
        | none =>
        match cw_call Ds Ks M K.2.2.2.2.2.1 q e z with
        | some r => go r
        | none => cw_ret M K q e z) fuel
def cw_sorted : List cv_Q → Bool
  | a :: b :: l => Nat.ble (a.1 + 1) b.1 && cw_sorted (b :: l)
  | _ => true
def cw_ent (i : Nat) : List cw_A → cw_E
  | [] => []
  | v :: l => ((i, 0), v, some 0) :: cw_ent (bif cw_isL v then i + 2 else i + 1) l
noncomputable def cw_chk (Ds : List cw_D) (Ks : List cw_K) (M : cv_M) (K : cw_K) (dp : Nat) (cs : List cw_G) (nr fuel : Nat) : Bool :=
  cw_sorted M.2.1 && ((match M.2.1 with
    | q :: _ => q.1 == 0
    | [] => false) && (K.2.2.2.2.1.isEmpty && ((K.2.2.2.1.isEmpty || (cs.isEmpty && K.2.1.all (fun x => !cw_isL x))) && (K.2.2.2.2.2.2.all (fun t => Nat.ble t.1 98) && (cw_ev Ds Ks M K dp cs none fuel true M.2.1 (cw_ent 0 K.2.1 ++ K.2.2.2.2.2.2.map (fun t => ((0, t.1 + 1), t.2, some 0))) [] &&
    cs.all (fun c => c.2.2.length == nr && cw_ev Ds Ks M K dp cs (some c.2.2) fuel true (M.2.1.dropWhile (fun q => !(q.1 == c.1))) (c.2.1.map (fun t => (t.1, t.2, some 0))) []))))))
theorem cw_ev_eq (Ds : List cw_D) (Ks : List cw_K) (M : cv_M) (K : cw_K) (dp : Nat) (cs : List cw_G) (rk : Option (List (Nat × cw_U × Nat))) (fuel : Nat) (b : Bool) (q : cv_Q) (l : List cv_Q) (e : cw_E) (z : cw_Z) : cw_ev Ds Ks M K dp cs rk (fuel + 1) b (q :: l) e z =
  (match (bif b then none else cs.find? (fun c => c.1 == q.1)) with
      | some c => z.isEmpty && (cw_incl Ds e c.2.1 && cw_rkd rk e c.2.2)
      | none =>
        match cw_one Ds K.2.2.2.2.2.1 dp q e z with
        | some r => r.all (cw_go1 (cw_ev Ds Ks M K dp cs rk fuel false) M.2.1 l (q.1 + q.2.2.1))
        | none =>
        match cw_nat M q e z with
        | some r => r.all (cw_go1 (cw_ev Ds Ks M K dp cs rk fuel false) M.2.1 l (q.1 + q.2.2.1))
        | none =>
        match cw_call Ds Ks M K.2.2.2.2.2.1 q e z with
        | some r => r.all (cw_go1 (cw_ev Ds Ks M K dp cs rk fuel false) M.2.1 l (q.1 + q.2.2.1))
        | none => cw_ret M K q e z) := rfl
