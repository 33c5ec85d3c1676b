section
/-! a trial of the kernel's speed: a small machine by continuations -/
noncomputable section
def sx_tr (α : Type) (d : Nat) : Type := Nat.rec (motive := fun _ => Type) α (fun _ t => t × t) d
abbrev sx_Cl : Type := Nat × Nat × Nat
abbrev sx_V : Type := Nat ⊕ (Nat ⊕ Nat)
def sx_get (d : Nat) : sx_tr sx_Cl d → Nat → sx_Cl := Nat.rec (motive := fun d => sx_tr sx_Cl d → Nat → sx_Cl) (fun c _ => c) (fun _ ih t a => Bool.rec (motive := fun _ => sx_Cl) (ih (Prod.snd t) (Nat.div a 2)) (ih (Prod.fst t) (Nat.div a 2)) (Nat.beq (Nat.mod a 2) 0)) d
def sx_set (d : Nat) : sx_tr sx_Cl d → Nat → sx_Cl → sx_tr sx_Cl d := Nat.rec (motive := fun d => sx_tr sx_Cl d → Nat → sx_Cl → sx_tr sx_Cl d) (fun _ _ v => v) (fun n ih t a v => Bool.rec (motive := fun _ => sx_tr sx_Cl (n + 1)) (Prod.mk (Prod.fst t) (ih (Prod.snd t) (Nat.div a 2) v)) (Prod.mk (ih (Prod.fst t) (Nat.div a 2) v) (Prod.snd t)) (Nat.beq (Nat.mod a 2) 0)) d
def sx_new (d : Nat) : sx_tr sx_Cl d := Nat.rec (motive := fun d => sx_tr sx_Cl d) ((0, 0, 0) : sx_Cl) (fun _ ih => Prod.mk ih ih) d
abbrev sx_H : Type := sx_tr sx_Cl 9
abbrev sx_R : Type := Option (sx_V × sx_H)
abbrev sx_K : Type := List sx_V → List sx_V → sx_H → sx_R
def sx_nth (k : Nat) : List sx_V → sx_V := Nat.rec (motive := fun _ => List sx_V → sx_V) (fun l => List.rec (motive := fun _ => sx_V) (.inl 0) (fun a _ _ => a) l) (fun _ ih l => ih (List.rec (motive := fun _ => List sx_V) [] (fun _ t _ => t) l)) k
def sx_put (k : Nat) : List sx_V → sx_V → List sx_V := Nat.rec (motive := fun _ => List sx_V → sx_V → List sx_V) (fun l v => List.rec (motive := fun _ => List sx_V) [] (fun _ t _ => v :: t) l) (fun _ ih l v => List.rec (motive := fun _ => List sx_V) [] (fun a t _ => a :: ih t v) l) k
def sx_fN {α : Type} (n : Nat) (k : Nat → α) : α := Nat.rec (motive := fun _ => α) (k 0) (fun m _ => k (Nat.succ m)) n
def o_load (k : Nat) (c : sx_K) : sx_K := fun ls st h => c ls (sx_nth k ls :: st) h
def o_two (f : Nat → Nat → List sx_V → sx_R) (st : List sx_V) : sx_R := match st with
  | .inl b :: .inl a :: r => f a b r
  | _ => none
def o_iadd (c : sx_K) : sx_K := fun ls st h => o_two (fun a b r => c ls (.inl (Nat.mod (Nat.add a b) 4294967296) :: r) h) st
def o_if_ge (t c : sx_K) : sx_K := fun ls st h => o_two (fun a b r => Bool.rec (motive := fun _ => sx_R) (c ls r h) (t ls r h) (Nat.ble b a)) st
def o_iinc (k d : Nat) (c : sx_K) : sx_K := fun ls st h => match sx_nth k ls with
  | .inl a => sx_fN (Nat.mod (Nat.add a d) 4294967296) (fun a => c (sx_put k ls (.inl a)) st h)
  | _ => none
def o_getf (j : Nat) (c : sx_K) : sx_K := fun ls st h => match st with
  | .inr (.inr a) :: r => (match sx_get 9 h a with
    | (_, _, d) => c ls (.inr (.inr (Nat.mod (Nat.shiftRight d (Nat.mul 64 j)) 18446744073709551616)) :: r) h)
  | _ => none
def o_iaload (c : sx_K) : sx_K := fun ls st h => match st with
  | .inl i :: .inr (.inr a) :: r => (match sx_get 9 h a with
    | (_, n, d) => Bool.rec (motive := fun _ => sx_R) none (c ls (.inl (Nat.mod (Nat.shiftRight d (Nat.mul 32 i)) 4294967296) :: r) h) (Nat.ble (Nat.succ i) n))
  | _ => none
def o_iastore (c : sx_K) : sx_K := fun ls st h => match st with
  | .inl v :: .inl i :: .inr (.inr a) :: r => (match sx_get 9 h a with
    | (k, n, d) => Bool.rec (motive := fun _ => sx_R) none (sx_fN (Nat.xor d (Nat.shiftLeft (Nat.xor v (Nat.mod (Nat.shiftRight d (Nat.mul 32 i)) 4294967296)) (Nat.mul 32 i))) (fun d' => c ls r (sx_set 9 h a (k, n, d')))) (Nat.ble (Nat.succ i) n))
  | _ => none
def o_ret : sx_K := fun _ st h => match st with
  | v :: _ => some (v, h)
  | _ => none
/-- for (i = 0; i < n; i++) this.row[i] = i + this.row[i] : 15 instructions a turn -/
def b_loop (lp : sx_K) : sx_K := o_load 2 <| o_load 1 <| o_if_ge (o_load 2 <| o_ret) <| o_load 0 <| o_getf 3 <| o_load 2 <| o_load 2 <| o_load 0 <| o_getf 3 <| o_load 2 <| o_iaload <| o_iadd <| o_iastore <| o_iinc 2 1 <| lp
def x_loop (n : Nat) : sx_K := Nat.rec (motive := fun _ => sx_K) (fun _ _ _ => none) (fun _ ih => b_loop ih) n
def h_0 : sx_H := sx_set 9 (sx_set 9 (sx_new 9) 37 (1, 4, Nat.shiftLeft 213 192)) 213 (2, 6000, 0)
def t_ok (n : Nat) : Bool := match x_loop 1000000 [.inr (.inr 37), .inl n, .inl 0] [] h_0 with
  | some (.inl r, _) => Nat.beq r n
  | _ => false
theorem t_5000 : t_ok 5000 = true := by decide +kernel
end
end
