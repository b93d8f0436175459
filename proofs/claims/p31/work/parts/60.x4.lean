abbrev rmX2_append : Room := { frames := 1, cells := 0, slots := 0, locals := 22 }
abbrev rmX2_putBufferPins : Room := { frames := 5, cells := 0, slots := 0, locals := 115 }
