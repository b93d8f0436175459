abbrev rmX2_bitsOfShare : Room := { frames := 0, cells := 0, slots := 0, locals := 0 }
abbrev rmX2_digest : Room := { frames := 7, cells := 0, slots := 0, locals := 162 }
