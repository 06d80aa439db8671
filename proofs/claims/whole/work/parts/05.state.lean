abbrev Sc : Type := (Nat → Int32) × (Nat → Int32) × (Nat → Int32)
def pr (S : Sc) (k : Nat) (v : Int32) : Sc := (upd S.1 k v, S.2)
def pm (S : Sc) (k : Nat) (v : Int32) : Sc := (S.1, upd S.2.1 k v, S.2.2)
def pl (S : Sc) (k : Nat) (v : Int32) : Sc := (S.1, S.2.1, upd S.2.2 k v)
def bn {α : Type} (x : Int32 × Sc) (F : Int32 → Sc → α) : α := F x.1 x.2
def bs {α : Type} (x : Sc) (F : Sc → α) : α := F x
theorem bn_eq {α : Type} {x : Int32 × Sc} {r : Int32} {S : Sc} (e : x = (r, S)) {F : Int32 → Sc → α} : bn x F = F r S := by subst e; rfl
theorem bs_eq {α : Type} {x S : Sc} (e : x = S) {F : Sc → α} : bs x F = F S := by subst e; rfl
def bf : Nat → Int32 := fun k => match k with
  | 0 => 128
  | 1 => 64
  | 2 => 1
  | _ => 2
