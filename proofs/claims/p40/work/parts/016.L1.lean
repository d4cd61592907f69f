/-! products of columns, number by number; the order of senders -/
/-! the class's led table, told in the reference's way -/
