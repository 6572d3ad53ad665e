/-! ===== the relation with the light row, the saved states; forecasts; texts ===== -/
section REL2
def frw (a b c d : zF) : Nat → zF
  | 0 => a
  | 1 => b
  | 2 => c
  | _ => d
def mkS (g a b c d : zF) (n : Nat) : zSt := (g, frw a b c d, n)
end REL2

