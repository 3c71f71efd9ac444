/-! constructor: the reference -/
abbrev W5_0 (h0 : Nat) : va_W := [(h0, .inr (5, [.null, .null, .int 0, .null, .int 0, .int 0, .int 0, .null, .int 0, .null, .int 0, .int 0, .int 0, .int 0, .null]))]
def g5I : Mem := fun q k => match q with
  | 0 => (match k with
    | 11 => -1
    | _ => 0)
  | 1 => (upd (upd (upd (upd (upd (upd (upd (fun _ => 0) 0 1) 1 1) 2 1) 3 1) 4 1) 5 1) 870 2) k
  | _ => 0